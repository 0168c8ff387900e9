set_option maxRecDepth 20000 in
theorem gX9_tick_X9_handleAll : GoodIn wsX9_tick (wsV RX9 247 RX9 yX9_handleAll wsX9_handleAll) := goodIn_app (goodIn_of _ (by decide +kernel)) ggX9_tick_X9_handleAll
set_option maxRecDepth 20000 in
theorem ggX9_tick_X9_isOpen : GoodIn wsX9_tick wsX9_isOpen := goodIn_r _ [44, 1, 69, 70, 71, 72, 73, 74, 75, 76, 77, 78, 79, 80, 81, 82, 83, 84, 85, 86] (by decide +kernel) (by decide +kernel)
set_option maxRecDepth 20000 in
theorem gX9_tick_X9_isOpen : GoodIn wsX9_tick (wsV RX9 231 RX9 yX9_isOpen wsX9_isOpen) := goodIn_app (goodIn_of _ (by decide +kernel)) ggX9_tick_X9_isOpen
set_option maxRecDepth 20000 in
theorem ggX9_tick_X9_isUp : GoodIn wsX9_tick wsX9_isUp := goodIn_r _ [14, 15, 16, 17, 5, 18, 1, 19, 20, 21, 69, 70, 71, 72, 73, 74, 75, 76, 77, 78, 79, 80, 81, 82, 83, 84, 85, 86] (by decide +kernel) (by decide +kernel)
set_option maxRecDepth 20000 in
theorem gX9_tick_X9_isUp : GoodIn wsX9_tick (wsV RX9 228 RX9 yX9_isUp wsX9_isUp) := goodIn_app (goodIn_of _ (by decide +kernel)) ggX9_tick_X9_isUp
set_option maxRecDepth 20000 in
theorem ggX9_tick_X9_of : GoodIn wsX9_tick wsX9_of := goodIn_r _ [18, 1, 19, 20, 5, 21, 69, 70, 71, 72, 73, 74, 75, 76, 77, 78, 79, 80, 81, 82, 83, 84, 85, 86] (by decide +kernel) (by decide +kernel)
set_option maxRecDepth 20000 in
theorem gX9_tick_X9_of : GoodIn wsX9_tick (wsV RX9 181 RX9 yX9_of wsX9_of) := goodIn_app (goodIn_of _ (by decide +kernel)) ggX9_tick_X9_of
set_option maxRecDepth 20000 in
theorem ggX9_tick_X9_estimate : GoodIn wsX9_tick wsX9_estimate := goodIn_r _ [64, 22, 23, 24, 5, 25, 1, 15, 16, 17, 18, 19, 20, 21, 69, 70, 71, 72, 73, 74, 75, 76, 77, 78, 79, 80, 81, 82, 83, 84, 85, 86] (by decide +kernel) (by decide +kernel)
set_option maxRecDepth 20000 in
theorem gX9_tick_X9_estimate : GoodIn wsX9_tick (wsV RX9 244 RX9 yX9_estimate wsX9_estimate) := goodIn_app (goodIn_of _ (by decide +kernel)) ggX9_tick_X9_estimate
set_option maxRecDepth 20000 in
theorem ggX9_tick_X9_change : GoodIn wsX9_tick wsX9_change := goodIn_r _ [68, 1, 61, 62, 63, 5, 64, 22, 23, 24, 25, 15, 16, 17, 18, 19, 20, 21, 33, 34, 35, 36, 53, 54, 55, 56, 69, 70, 71, 72, 73, 74, 75, 76, 77, 78, 79, 80, 81, 82, 83, 84, 85, 86] (by decide +kernel) (by decide +kernel)
set_option maxRecDepth 20000 in
theorem gX9_tick_X9_change : GoodIn wsX9_tick (wsV RX9 253 RX9 yX9_change wsX9_change) := goodIn_app (goodIn_of _ (by decide +kernel)) ggX9_tick_X9_change
set_option maxRecDepth 20000 in
theorem ggX9_proposeNow_X9_clock : GoodIn wsX9_proposeNow wsX9_clock := goodIn_r _ [6, 1, 7, 8, 9, 5, 10, 11, 12, 13, 37, 38, 39, 40, 41, 42, 43, 44, 45, 46, 47, 48, 49, 50, 51, 52, 53, 54] (by decide +kernel) (by decide +kernel)
set_option maxRecDepth 20000 in
theorem gX9_proposeNow_X9_clock : GoodIn wsX9_proposeNow (wsV RX9 184 RX9 yX9_clock wsX9_clock) := goodIn_app (goodIn_of _ (by decide +kernel)) ggX9_proposeNow_X9_clock
set_option maxRecDepth 20000 in
theorem ggX9_proposeNow_X9_plan : GoodIn wsX9_proposeNow wsX9_plan := goodIn_r _ [17, 7, 8, 9, 5, 10, 1, 11, 12, 13, 18, 19, 20, 21, 37, 38, 39, 40, 41, 42, 43, 44, 45, 46, 47, 48, 49, 50, 51, 52, 53, 54] (by decide +kernel) (by decide +kernel)
set_option maxRecDepth 20000 in
theorem gX9_proposeNow_X9_plan : GoodIn wsX9_proposeNow (wsV RX9 221 RX9 yX9_plan wsX9_plan) := goodIn_app (goodIn_of _ (by decide +kernel)) ggX9_proposeNow_X9_plan
set_option maxRecDepth 20000 in
theorem ggX9_proposeNow_X9_sendToOthers : GoodIn wsX9_proposeNow wsX9_sendToOthers := goodIn_r _ [25, 1, 26, 27, 28, 5, 29, 30, 31, 32, 37, 38, 39, 40, 41, 42, 43, 44, 45, 46, 47, 48, 49, 50, 51, 52, 53, 54] (by decide +kernel) (by decide +kernel)
set_option maxRecDepth 20000 in
theorem gX9_proposeNow_X9_sendToOthers : GoodIn wsX9_proposeNow (wsV RX9 225 RX9 yX9_sendToOthers wsX9_sendToOthers) := goodIn_app (goodIn_of _ (by decide +kernel)) ggX9_proposeNow_X9_sendToOthers
set_option maxRecDepth 20000 in
theorem ggX9_proposeNow_X9_vote : GoodIn wsX9_proposeNow wsX9_vote := goodIn_r _ [36, 1, 14, 15, 16, 5, 17, 7, 8, 9, 10, 11, 12, 13, 18, 19, 20, 21, 22, 23, 24, 25, 26, 27, 28, 29, 30, 31, 32, 37, 38, 39, 40, 41, 42, 43, 44, 45, 46, 47, 48, 49, 50, 51, 52, 53, 54] (by decide +kernel) (by decide +kernel)
set_option maxRecDepth 20000 in
theorem gX9_proposeNow_X9_vote : GoodIn wsX9_proposeNow (wsV RX9 234 RX9 yX9_vote wsX9_vote) := goodIn_app (goodIn_of _ (by decide +kernel)) ggX9_proposeNow_X9_vote
set_option maxRecDepth 20000 in
theorem ggX9_isLive_X9_isOpen : GoodIn wsX9_isLive wsX9_isOpen := goodIn_r _ [6, 1, 18, 19, 20, 21, 22, 23, 24, 25, 26, 27, 28, 29, 30, 31, 32, 33, 34, 35] (by decide +kernel) (by decide +kernel)
set_option maxRecDepth 20000 in
theorem gX9_isLive_X9_isOpen : GoodIn wsX9_isLive (wsV RX9 231 RX9 yX9_isOpen wsX9_isOpen) := goodIn_app (goodIn_of _ (by decide +kernel)) ggX9_isLive_X9_isOpen
set_option maxRecDepth 20000 in
theorem ggX9_isLive_X9_isUp : GoodIn wsX9_isLive wsX9_isUp := goodIn_r _ [10, 11, 12, 13, 5, 14, 1, 15, 16, 17, 18, 19, 20, 21, 22, 23, 24, 25, 26, 27, 28, 29, 30, 31, 32, 33, 34, 35] (by decide +kernel) (by decide +kernel)
set_option maxRecDepth 20000 in
theorem gX9_isLive_X9_isUp : GoodIn wsX9_isLive (wsV RX9 228 RX9 yX9_isUp wsX9_isUp) := goodIn_app (goodIn_of _ (by decide +kernel)) ggX9_isLive_X9_isUp
set_option maxRecDepth 20000 in
theorem ggX9_isLive_X9_of : GoodIn wsX9_isLive wsX9_of := goodIn_r _ [14, 1, 15, 16, 5, 17, 18, 19, 20, 21, 22, 23, 24, 25, 26, 27, 28, 29, 30, 31, 32, 33, 34, 35] (by decide +kernel) (by decide +kernel)
set_option maxRecDepth 20000 in
theorem gX9_isLive_X9_of : GoodIn wsX9_isLive (wsV RX9 181 RX9 yX9_of wsX9_of) := goodIn_app (goodIn_of _ (by decide +kernel)) ggX9_isLive_X9_of
set_option maxRecDepth 20000 in
theorem ggX9_goOn_X9_isLive : GoodIn wsX9_goOn wsX9_isLive := goodIn_r _ [5, 6, 7, 8, 9, 4, 10, 11, 12, 13, 14, 15, 16, 17, 18, 19, 20, 21, 77, 78, 79, 80, 81, 82, 83, 84, 85, 86, 87, 88, 89, 90, 91, 92, 93, 94] (by decide +kernel) (by decide +kernel)
set_option maxRecDepth 20000 in
theorem gX9_goOn_X9_isLive : GoodIn wsX9_goOn (wsV RX9 256 RX9 yX9_isLive wsX9_isLive) := goodIn_app (goodIn_of _ (by decide +kernel)) ggX9_goOn_X9_isLive
set_option maxRecDepth 20000 in
theorem ggX9_goOn_X9_tick : GoodIn wsX9_goOn wsX9_tick := goodIn_r _ [25, 6, 26, 27, 28, 4, 29, 30, 31, 32, 33, 11, 12, 13, 14, 15, 16, 17, 18, 19, 20, 21, 34, 35, 36, 37, 38, 39, 40, 41, 42, 43, 44, 45, 46, 47, 48, 49, 50, 51, 52, 7, 8, 9, 10, 53, 54, 55, 56, 57, 58, 59, 60, 61, 62, 63, 64, 65, 66, 67, 68, 69, 70, 71, 72, 73, 74, 75, 76, 77, 78, 79, 80, 81, 82, 83, 84, 85, 86, 87, 88, 89, 90, 91, 92, 93, 94] (by decide +kernel) (by decide +kernel)
set_option maxRecDepth 20000 in
theorem gX9_goOn_X9_tick : GoodIn wsX9_goOn (wsV RX9 259 RX9 yX9_tick wsX9_tick) := goodIn_app (goodIn_of _ (by decide +kernel)) ggX9_goOn_X9_tick
set_option maxRecDepth 20000 in
theorem ggX9_noPlayer_X9_in : GoodIn wsX9_noPlayer wsX9_in := goodIn_r _ [5] (by decide +kernel) (by decide +kernel)
set_option maxRecDepth 20000 in
theorem gX9_noPlayer_X9_in : GoodIn wsX9_noPlayer (va_wsS RX9 65 yX9_in wsX9_in) := goodIn_app (goodIn_of _ (by decide +kernel)) ggX9_noPlayer_X9_in
set_option maxRecDepth 20000 in
theorem ggX9_noPlayer_X9_fails : GoodIn wsX9_noPlayer wsX9_fails := goodIn_r _ [9, 10, 11, 12, 13, 14, 15, 16, 17, 18, 19, 20, 21, 22, 23, 24, 25, 26, 27, 28] (by decide +kernel) (by decide +kernel)
set_option maxRecDepth 20000 in
theorem gX9_noPlayer_X9_fails : GoodIn wsX9_noPlayer (wsV RX9 167 RX9 yX9_fails wsX9_fails) := goodIn_app (goodIn_of _ (by decide +kernel)) ggX9_noPlayer_X9_fails
set_option maxRecDepth 20000 in
theorem ggX9_songs_X9_isUp : GoodIn wsX9_songs wsX9_isUp := goodIn_r _ [6, 7, 8, 9, 5, 10, 1, 11, 12, 13, 14, 15, 16, 17, 18, 19, 20, 21, 22, 23, 24, 25, 26, 27, 28, 29, 30, 31] (by decide +kernel) (by decide +kernel)
set_option maxRecDepth 20000 in
theorem gX9_songs_X9_isUp : GoodIn wsX9_songs (wsV RX9 228 RX9 yX9_isUp wsX9_isUp) := goodIn_app (goodIn_of _ (by decide +kernel)) ggX9_songs_X9_isUp
set_option maxRecDepth 20000 in
theorem ggX9_told_X9_songs : GoodIn wsX9_told wsX9_songs := goodIn_r _ [6, 1, 7, 8, 9, 5, 10, 11, 12, 13, 14, 15, 16, 17, 53, 54, 55, 56, 57, 58, 59, 60, 61, 62, 63, 64, 65, 66, 67, 68, 69, 70] (by decide +kernel) (by decide +kernel)
set_option maxRecDepth 20000 in
theorem gX9_told_X9_songs : GoodIn wsX9_told (wsV RX9 262 RX9 yX9_songs wsX9_songs) := goodIn_app (goodIn_of _ (by decide +kernel)) ggX9_told_X9_songs
set_option maxRecDepth 20000 in
theorem ggX9_told_X9_margin : GoodIn wsX9_told wsX9_margin := goodIn_r _ [21, 1, 22, 23, 24, 5, 25, 26, 27, 28, 29, 30, 31, 32, 33, 34, 35, 36, 37, 38, 39, 40, 41, 11, 12, 13, 14, 15, 16, 17, 42, 43, 44, 45, 46, 47, 48, 49, 50, 51, 52, 53, 54, 55, 56, 57, 58, 59, 60, 61, 62, 63, 64, 65, 66, 67, 68, 69, 70] (by decide +kernel) (by decide +kernel)
set_option maxRecDepth 20000 in
theorem gX9_told_X9_margin : GoodIn wsX9_told (wsV RX9 265 RX9 yX9_margin wsX9_margin) := goodIn_app (goodIn_of _ (by decide +kernel)) ggX9_told_X9_margin
set_option maxRecDepth 20000 in
theorem ggX9_state_X9_in : GoodIn wsX9_state wsX9_in := goodIn_r _ [5] (by decide +kernel) (by decide +kernel)
set_option maxRecDepth 20000 in
theorem gX9_state_X9_in : GoodIn wsX9_state (va_wsS RX9 65 yX9_in wsX9_in) := goodIn_app (goodIn_of _ (by decide +kernel)) ggX9_state_X9_in
set_option maxRecDepth 20000 in
theorem ggX9_state_X9_fails : GoodIn wsX9_state wsX9_fails := goodIn_r _ [9, 1, 65, 66, 67, 68, 69, 70, 71, 72, 73, 74, 75, 76, 77, 78, 79, 80, 81, 82] (by decide +kernel) (by decide +kernel)
set_option maxRecDepth 20000 in
theorem gX9_state_X9_fails : GoodIn wsX9_state (wsV RX9 167 RX9 yX9_fails wsX9_fails) := goodIn_app (goodIn_of _ (by decide +kernel)) ggX9_state_X9_fails
set_option maxRecDepth 20000 in
theorem ggX9_state_X9_told : GoodIn wsX9_state wsX9_told := goodIn_r _ [13, 14, 15, 16, 17, 4, 18, 19, 20, 21, 22, 23, 24, 25, 26, 27, 28, 29, 30, 31, 32, 33, 34, 35, 36, 37, 38, 39, 40, 41, 42, 43, 44, 45, 46, 47, 48, 49, 50, 51, 52, 53, 54, 55, 56, 57, 58, 59, 60, 61, 62, 63, 64, 65, 66, 67, 68, 69, 70, 71, 72, 73, 74, 75, 76, 77, 78, 79, 80, 81, 82] (by decide +kernel) (by decide +kernel)
set_option maxRecDepth 20000 in
theorem gX9_state_X9_told : GoodIn wsX9_state (wsV RX9 267 RX9 yX9_told wsX9_told) := goodIn_app (goodIn_of _ (by decide +kernel)) ggX9_state_X9_told
set_option maxRecDepth 20000 in
theorem ggX9_toldPlayer_X9_of : GoodIn wsX9_toldPlayer wsX9_of := goodIn_r _ [6, 1, 7, 8, 5, 9, 18, 19, 20, 21, 22, 23, 24, 25, 26, 27, 28, 29, 30, 31, 32, 33, 34, 35] (by decide +kernel) (by decide +kernel)
set_option maxRecDepth 20000 in
theorem gX9_toldPlayer_X9_of : GoodIn wsX9_toldPlayer (wsV RX9 181 RX9 yX9_of wsX9_of) := goodIn_app (goodIn_of _ (by decide +kernel)) ggX9_toldPlayer_X9_of
set_option maxRecDepth 20000 in
theorem ggX9_toldPlayer_X9_clock : GoodIn wsX9_toldPlayer wsX9_clock := goodIn_r _ [13, 1, 2, 3, 4, 5, 6, 7, 8, 9, 18, 19, 20, 21, 22, 23, 24, 25, 26, 27, 28, 29, 30, 31, 32, 33, 34, 35] (by decide +kernel) (by decide +kernel)
set_option maxRecDepth 20000 in
theorem gX9_toldPlayer_X9_clock : GoodIn wsX9_toldPlayer (wsV RX9 184 RX9 yX9_clock wsX9_clock) := goodIn_app (goodIn_of _ (by decide +kernel)) ggX9_toldPlayer_X9_clock
set_option maxRecDepth 20000 in
theorem ggX9_toldPlayer_X9_estimate : GoodIn wsX9_toldPlayer wsX9_estimate := goodIn_r _ [17, 10, 11, 12, 5, 13, 1, 2, 3, 4, 6, 7, 8, 9, 18, 19, 20, 21, 22, 23, 24, 25, 26, 27, 28, 29, 30, 31, 32, 33, 34, 35] (by decide +kernel) (by decide +kernel)
set_option maxRecDepth 20000 in
theorem gX9_toldPlayer_X9_estimate : GoodIn wsX9_toldPlayer (wsV RX9 244 RX9 yX9_estimate wsX9_estimate) := goodIn_app (goodIn_of _ (by decide +kernel)) ggX9_toldPlayer_X9_estimate
set_option maxRecDepth 20000 in
theorem ggX9_player_X9_noPlayer : GoodIn wsX9_player wsX9_noPlayer := goodIn_r _ [6, 7, 8, 9, 5, 10, 11, 12, 13, 14, 1, 34, 35, 36, 37, 38, 39, 40, 41, 42, 43, 44, 45, 46, 47, 48, 49, 50, 51] (by decide +kernel) (by decide +kernel)
set_option maxRecDepth 20000 in
theorem gX9_player_X9_noPlayer : GoodIn wsX9_player (wsV RX9 270 RX9 yX9_noPlayer wsX9_noPlayer) := goodIn_app (goodIn_of _ (by decide +kernel)) ggX9_player_X9_noPlayer
set_option maxRecDepth 20000 in
theorem ggX9_player_X9_in : GoodIn wsX9_player wsX9_in := goodIn_r _ [10] (by decide +kernel) (by decide +kernel)
set_option maxRecDepth 20000 in
theorem gX9_player_X9_in : GoodIn wsX9_player (va_wsS RX9 65 yX9_in wsX9_in) := goodIn_app (goodIn_of _ (by decide +kernel)) ggX9_player_X9_in
set_option maxRecDepth 20000 in
theorem ggX9_player_X9_fails : GoodIn wsX9_player wsX9_fails := goodIn_r _ [14, 1, 34, 35, 36, 37, 38, 39, 40, 41, 42, 43, 44, 45, 46, 47, 48, 49, 50, 51] (by decide +kernel) (by decide +kernel)
set_option maxRecDepth 20000 in
theorem gX9_player_X9_fails : GoodIn wsX9_player (wsV RX9 167 RX9 yX9_fails wsX9_fails) := goodIn_app (goodIn_of _ (by decide +kernel)) ggX9_player_X9_fails
set_option maxRecDepth 20000 in
theorem ggX9_player_X9_toldPlayer : GoodIn wsX9_player wsX9_toldPlayer := goodIn_r _ [18, 7, 19, 20, 21, 5, 22, 23, 24, 25, 26, 27, 28, 29, 30, 31, 32, 33, 34, 35, 36, 37, 38, 39, 40, 41, 42, 43, 44, 45, 46, 47, 48, 49, 50, 51] (by decide +kernel) (by decide +kernel)
set_option maxRecDepth 20000 in
theorem gX9_player_X9_toldPlayer : GoodIn wsX9_player (wsV RX9 273 RX9 yX9_toldPlayer wsX9_toldPlayer) := goodIn_app (goodIn_of _ (by decide +kernel)) ggX9_player_X9_toldPlayer
set_option maxRecDepth 20000 in
theorem ggX9_link_X9_noPlayer : GoodIn wsX9_link wsX9_noPlayer := goodIn_r _ [7, 2, 8, 9, 6, 10, 11, 12, 13, 14, 1, 18, 19, 20, 21, 22, 23, 24, 25, 26, 27, 28, 29, 30, 31, 32, 33, 34, 35] (by decide +kernel) (by decide +kernel)
set_option maxRecDepth 20000 in
theorem gX9_link_X9_noPlayer : GoodIn wsX9_link (wsV RX9 270 RX9 yX9_noPlayer wsX9_noPlayer) := goodIn_app (goodIn_of _ (by decide +kernel)) ggX9_link_X9_noPlayer
set_option maxRecDepth 20000 in
theorem ggX9_link_X9_linkAt : GoodIn wsX9_link wsX9_linkAt := goodIn_r _ [17] (by decide +kernel) (by decide +kernel)
set_option maxRecDepth 20000 in
theorem gX9_link_X9_linkAt : GoodIn wsX9_link (va_wsS RX9 145 yX9_linkAt wsX9_linkAt) := goodIn_app (goodIn_of _ (by decide +kernel)) ggX9_link_X9_linkAt
set_option maxRecDepth 20000 in
theorem ggX9_message_X9_in : GoodIn wsX9_message wsX9_in := goodIn_r _ [6] (by decide +kernel) (by decide +kernel)
set_option maxRecDepth 20000 in
theorem gX9_message_X9_in : GoodIn wsX9_message (va_wsS RX9 65 yX9_in wsX9_in) := goodIn_app (goodIn_of _ (by decide +kernel)) ggX9_message_X9_in
set_option maxRecDepth 20000 in
theorem ggX9_message_X9_fails : GoodIn wsX9_message wsX9_fails := goodIn_r _ [10, 1, 19, 20, 21, 22, 23, 24, 25, 26, 27, 28, 29, 30, 31, 32, 33, 34, 35, 36] (by decide +kernel) (by decide +kernel)
set_option maxRecDepth 20000 in
theorem gX9_message_X9_fails : GoodIn wsX9_message (wsV RX9 167 RX9 yX9_fails wsX9_fails) := goodIn_app (goodIn_of _ (by decide +kernel)) ggX9_message_X9_fails
set_option maxRecDepth 20000 in
theorem ggX9_proposal_X9_fails : GoodIn wsX9_proposal wsX9_fails := goodIn_r _ [7, 1, 11, 12, 13, 14, 15, 16, 17, 18, 19, 20, 21, 22, 23, 24, 25, 26, 27, 28] (by decide +kernel) (by decide +kernel)
set_option maxRecDepth 20000 in
theorem gX9_proposal_X9_fails : GoodIn wsX9_proposal (wsV RX9 167 RX9 yX9_fails wsX9_fails) := goodIn_app (goodIn_of _ (by decide +kernel)) ggX9_proposal_X9_fails
set_option maxRecDepth 20000 in
theorem ggX9_spread_X9_spreadNow : GoodIn wsX9_spread wsX9_spreadNow := goodIn_r _ [6, 7, 8, 9, 10, 11, 12, 13, 14, 15, 16, 17, 18, 19, 20, 21, 22, 23, 24, 25] (by decide +kernel) (by decide +kernel)
set_option maxRecDepth 20000 in
theorem gX9_spread_X9_spreadNow : GoodIn wsX9_spread (wsV RX9 282 RX9 yX9_spreadNow wsX9_spreadNow) := goodIn_app (goodIn_of _ (by decide +kernel)) ggX9_spread_X9_spreadNow
set_option maxRecDepth 20000 in
theorem ggX9_foretold_X9_in : GoodIn wsX9_foretold wsX9_in := goodIn_r _ [7] (by decide +kernel) (by decide +kernel)
set_option maxRecDepth 20000 in
theorem gX9_foretold_X9_in : GoodIn wsX9_foretold (va_wsS RX9 65 yX9_in wsX9_in) := goodIn_app (goodIn_of _ (by decide +kernel)) ggX9_foretold_X9_in
set_option maxRecDepth 20000 in
theorem ggX9_foretold_X9_fails : GoodIn wsX9_foretold wsX9_fails := goodIn_r _ [11, 1, 101, 102, 103, 104, 105, 106, 107, 108, 109, 110, 111, 112, 113, 114, 115, 116, 117, 118] (by decide +kernel) (by decide +kernel)
set_option maxRecDepth 20000 in
theorem gX9_foretold_X9_fails : GoodIn wsX9_foretold (wsV RX9 167 RX9 yX9_fails wsX9_fails) := goodIn_app (goodIn_of _ (by decide +kernel)) ggX9_foretold_X9_fails
set_option maxRecDepth 20000 in
theorem ggX9_foretold_X9_copy : GoodIn wsX9_foretold wsX9_copy := goodIn_r _ [14] (by decide +kernel) (by decide +kernel)
set_option maxRecDepth 20000 in
theorem gX9_foretold_X9_copy : GoodIn wsX9_foretold (va_wsS RX9 177 yX9_copy wsX9_copy) := goodIn_app (goodIn_of _ (by decide +kernel)) ggX9_foretold_X9_copy
set_option maxRecDepth 20000 in
theorem ggX9_foretold_X9_goOn : GoodIn wsX9_foretold wsX9_goOn := goodIn_r _ [18, 19, 20, 21, 6, 22, 2, 23, 24, 25, 26, 27, 28, 29, 30, 31, 32, 33, 34, 35, 36, 37, 38, 39, 40, 41, 42, 43, 44, 45, 46, 47, 48, 49, 50, 51, 52, 53, 54, 55, 56, 57, 58, 59, 60, 61, 62, 63, 64, 65, 66, 67, 68, 69, 70, 71, 72, 73, 74, 75, 76, 77, 78, 79, 80, 81, 82, 83, 84, 85, 86, 87, 88, 89, 90, 91, 92, 101, 102, 103, 104, 105, 106, 107, 108, 109, 110, 111, 112, 113, 114, 115, 116, 117, 118] (by decide +kernel) (by decide +kernel)
set_option maxRecDepth 20000 in
theorem gX9_foretold_X9_goOn : GoodIn wsX9_foretold (wsV RX9 285 RX9 yX9_goOn wsX9_goOn) := goodIn_app (goodIn_of _ (by decide +kernel)) ggX9_foretold_X9_goOn
set_option maxRecDepth 20000 in
theorem ggX9_foretold_X9_spreadNow : GoodIn wsX9_foretold wsX9_spreadNow := goodIn_r _ [96, 2, 101, 102, 103, 104, 105, 106, 107, 108, 109, 110, 111, 112, 113, 114, 115, 116, 117, 118] (by decide +kernel) (by decide +kernel)
set_option maxRecDepth 20000 in
theorem gX9_foretold_X9_spreadNow : GoodIn wsX9_foretold (wsV RX9 282 RX9 yX9_spreadNow wsX9_spreadNow) := goodIn_app (goodIn_of _ (by decide +kernel)) ggX9_foretold_X9_spreadNow
set_option maxRecDepth 20000 in
theorem ggX9_foretold_X9_songs : GoodIn wsX9_foretold wsX9_songs := goodIn_r _ [100, 2, 27, 28, 29, 6, 30, 31, 32, 33, 34, 35, 36, 37, 101, 102, 103, 104, 105, 106, 107, 108, 109, 110, 111, 112, 113, 114, 115, 116, 117, 118] (by decide +kernel) (by decide +kernel)
set_option maxRecDepth 20000 in
theorem gX9_foretold_X9_songs : GoodIn wsX9_foretold (wsV RX9 262 RX9 yX9_songs wsX9_songs) := goodIn_app (goodIn_of _ (by decide +kernel)) ggX9_foretold_X9_songs
set_option maxRecDepth 20000 in
theorem ggX9_isSafe_X9_proposeNow : GoodIn wsX9_isSafe wsX9_proposeNow := goodIn_r _ [6, 1, 7, 8, 9, 5, 10, 11, 12, 13, 14, 15, 16, 17, 18, 19, 20, 21, 22, 23, 24, 25, 26, 27, 28, 29, 30, 31, 32, 33, 34, 35, 36, 37, 38, 39, 40, 85, 86, 87, 88, 89, 90, 91, 92, 93, 94, 95, 96, 97, 98, 99, 100, 101, 102] (by decide +kernel) (by decide +kernel)
set_option maxRecDepth 20000 in
theorem gX9_isSafe_X9_proposeNow : GoodIn wsX9_isSafe (wsV RX9 288 RX9 yX9_proposeNow wsX9_proposeNow) := goodIn_app (goodIn_of _ (by decide +kernel)) ggX9_isSafe_X9_proposeNow
set_option maxRecDepth 20000 in
theorem ggX9_isSafe_X9_goOn : GoodIn wsX9_isSafe wsX9_goOn := goodIn_r _ [44, 45, 46, 47, 5, 48, 1, 49, 50, 51, 52, 53, 54, 55, 56, 11, 12, 13, 14, 15, 16, 17, 57, 58, 59, 60, 61, 62, 63, 64, 65, 66, 67, 68, 7, 8, 9, 10, 30, 31, 32, 33, 34, 35, 36, 22, 23, 24, 25, 18, 19, 20, 21, 37, 38, 39, 40, 26, 27, 28, 29, 69, 70, 71, 72, 73, 74, 75, 76, 77, 78, 79, 80, 81, 82, 83, 84, 85, 86, 87, 88, 89, 90, 91, 92, 93, 94, 95, 96, 97, 98, 99, 100, 101, 102] (by decide +kernel) (by decide +kernel)
set_option maxRecDepth 20000 in
theorem gX9_isSafe_X9_goOn : GoodIn wsX9_isSafe (wsV RX9 285 RX9 yX9_goOn wsX9_goOn) := goodIn_app (goodIn_of _ (by decide +kernel)) ggX9_isSafe_X9_goOn
set_option maxRecDepth 20000 in
theorem ggX9_mayPropose_X9_isUp : GoodIn wsX9_mayPropose wsX9_isUp := goodIn_r _ [6, 7, 8, 9, 5, 10, 1, 11, 12, 13, 18, 19, 20, 21, 22, 23, 24, 25, 26, 27, 28, 29, 30, 31, 32, 33, 34, 35] (by decide +kernel) (by decide +kernel)
set_option maxRecDepth 20000 in
theorem gX9_mayPropose_X9_isUp : GoodIn wsX9_mayPropose (wsV RX9 228 RX9 yX9_isUp wsX9_isUp) := goodIn_app (goodIn_of _ (by decide +kernel)) ggX9_mayPropose_X9_isUp
set_option maxRecDepth 20000 in
theorem ggX9_mayPropose_X9_isOpen : GoodIn wsX9_mayPropose wsX9_isOpen := goodIn_r _ [17, 1, 18, 19, 20, 21, 22, 23, 24, 25, 26, 27, 28, 29, 30, 31, 32, 33, 34, 35] (by decide +kernel) (by decide +kernel)
set_option maxRecDepth 20000 in
theorem gX9_mayPropose_X9_isOpen : GoodIn wsX9_mayPropose (wsV RX9 231 RX9 yX9_isOpen wsX9_isOpen) := goodIn_app (goodIn_of _ (by decide +kernel)) ggX9_mayPropose_X9_isOpen
set_option maxRecDepth 20000 in
theorem ggX9_safest_X9_mayPropose : GoodIn wsX9_safest wsX9_mayPropose := goodIn_r _ [8, 2, 9, 10, 11, 7, 12, 13, 14, 15, 16, 17, 18, 19, 20, 21, 22, 23, 98, 99, 100, 101, 102, 103, 104, 105, 106, 107, 108, 109, 110, 111, 112, 113, 114, 115] (by decide +kernel) (by decide +kernel)
set_option maxRecDepth 20000 in
theorem gX9_safest_X9_mayPropose : GoodIn wsX9_safest (wsV RX9 291 RX9 yX9_mayPropose wsX9_mayPropose) := goodIn_app (goodIn_of _ (by decide +kernel)) ggX9_safest_X9_mayPropose
set_option maxRecDepth 20000 in
theorem ggX9_safest_X9_copy : GoodIn wsX9_safest wsX9_copy := goodIn_r _ [26] (by decide +kernel) (by decide +kernel)
set_option maxRecDepth 20000 in
theorem gX9_safest_X9_copy : GoodIn wsX9_safest (va_wsS RX9 177 yX9_copy wsX9_copy) := goodIn_app (goodIn_of _ (by decide +kernel)) ggX9_safest_X9_copy
set_option maxRecDepth 20000 in
theorem ggX9_safest_X9_isSafe : GoodIn wsX9_safest wsX9_isSafe := goodIn_r _ [30, 2, 31, 32, 33, 7, 34, 35, 36, 37, 38, 13, 14, 15, 16, 17, 18, 19, 39, 40, 41, 42, 43, 44, 45, 46, 47, 48, 49, 50, 51, 52, 53, 54, 55, 56, 57, 58, 59, 60, 61, 62, 63, 64, 65, 66, 67, 68, 69, 20, 21, 22, 23, 9, 10, 11, 12, 70, 71, 72, 73, 74, 75, 76, 77, 78, 79, 80, 81, 82, 83, 84, 85, 86, 87, 88, 89, 90, 91, 92, 93, 94, 95, 96, 97, 98, 99, 100, 101, 102, 103, 104, 105, 106, 107, 108, 109, 110, 111, 112, 113, 114, 115] (by decide +kernel) (by decide +kernel)
set_option maxRecDepth 20000 in
theorem gX9_safest_X9_isSafe : GoodIn wsX9_safest (wsV RX9 294 RX9 yX9_isSafe wsX9_isSafe) := goodIn_app (goodIn_of _ (by decide +kernel)) ggX9_safest_X9_isSafe
set_option maxRecDepth 20000 in
theorem ggX9_meanError_X9_playersUp : GoodIn wsX9_meanError wsX9_playersUp := goodIn_r _ [11, 2, 12, 13, 14, 10, 15, 16, 17, 18, 35, 36, 37, 38, 39, 40, 41, 42, 43, 44, 45, 46, 47, 48, 49, 50, 51, 52] (by decide +kernel) (by decide +kernel)
set_option maxRecDepth 20000 in
theorem gX9_meanError_X9_playersUp : GoodIn wsX9_meanError (wsV RX9 200 RX9 yX9_playersUp wsX9_playersUp) := goodIn_app (goodIn_of _ (by decide +kernel)) ggX9_meanError_X9_playersUp
set_option maxRecDepth 20000 in
theorem ggX9_meanError_X9_isUp : GoodIn wsX9_meanError wsX9_isUp := goodIn_r _ [22, 12, 13, 14, 10, 15, 2, 16, 17, 18, 35, 36, 37, 38, 39, 40, 41, 42, 43, 44, 45, 46, 47, 48, 49, 50, 51, 52] (by decide +kernel) (by decide +kernel)
set_option maxRecDepth 20000 in
theorem gX9_meanError_X9_isUp : GoodIn wsX9_meanError (wsV RX9 228 RX9 yX9_isUp wsX9_isUp) := goodIn_app (goodIn_of _ (by decide +kernel)) ggX9_meanError_X9_isUp
set_option maxRecDepth 20000 in
theorem ggX9_meanError_X9_toldPlayer : GoodIn wsX9_meanError wsX9_toldPlayer := goodIn_r _ [26, 2, 12, 13, 14, 10, 15, 16, 17, 18, 27, 28, 29, 30, 31, 32, 33, 34, 35, 36, 37, 38, 39, 40, 41, 42, 43, 44, 45, 46, 47, 48, 49, 50, 51, 52] (by decide +kernel) (by decide +kernel)
set_option maxRecDepth 20000 in
theorem gX9_meanError_X9_toldPlayer : GoodIn wsX9_meanError (wsV RX9 273 RX9 yX9_toldPlayer wsX9_toldPlayer) := goodIn_app (goodIn_of _ (by decide +kernel)) ggX9_meanError_X9_toldPlayer
set_option maxRecDepth 20000 in
theorem ggX9_remember_X9_copy : GoodIn wsX9_remember wsX9_copy := goodIn_r _ [7] (by decide +kernel) (by decide +kernel)
set_option maxRecDepth 20000 in
theorem gX9_remember_X9_copy : GoodIn wsX9_remember (va_wsS RX9 177 yX9_copy wsX9_copy) := goodIn_app (goodIn_of _ (by decide +kernel)) ggX9_remember_X9_copy
set_option maxRecDepth 20000 in
theorem ggX9_propose_X9_in : GoodIn wsX9_propose wsX9_in := goodIn_r _ [5] (by decide +kernel) (by decide +kernel)
set_option maxRecDepth 20000 in
theorem gX9_propose_X9_in : GoodIn wsX9_propose (va_wsS RX9 65 yX9_in wsX9_in) := goodIn_app (goodIn_of _ (by decide +kernel)) ggX9_propose_X9_in
set_option maxRecDepth 20000 in
theorem ggX9_propose_X9_fails : GoodIn wsX9_propose wsX9_fails := goodIn_r _ [9, 1, 105, 106, 107, 108, 109, 110, 111, 112, 113, 114, 115, 116, 117, 118, 119, 120, 121, 122] (by decide +kernel) (by decide +kernel)
set_option maxRecDepth 20000 in
theorem gX9_propose_X9_fails : GoodIn wsX9_propose (wsV RX9 167 RX9 yX9_fails wsX9_fails) := goodIn_app (goodIn_of _ (by decide +kernel)) ggX9_propose_X9_fails
set_option maxRecDepth 20000 in
theorem ggX9_propose_X9_mayPropose : GoodIn wsX9_propose wsX9_mayPropose := goodIn_r _ [13, 14, 15, 16, 17, 4, 18, 19, 20, 21, 22, 23, 24, 25, 26, 27, 28, 29, 105, 106, 107, 108, 109, 110, 111, 112, 113, 114, 115, 116, 117, 118, 119, 120, 121, 122] (by decide +kernel) (by decide +kernel)
set_option maxRecDepth 20000 in
theorem gX9_propose_X9_mayPropose : GoodIn wsX9_propose (wsV RX9 291 RX9 yX9_mayPropose wsX9_mayPropose) := goodIn_app (goodIn_of _ (by decide +kernel)) ggX9_propose_X9_mayPropose
set_option maxRecDepth 20000 in
theorem ggX9_propose_X9_remember : GoodIn wsX9_propose wsX9_remember := goodIn_r _ [33, 34, 35, 14, 36, 37, 4, 38, 105, 106, 107, 108, 109, 110, 111, 112, 113, 114, 115, 116, 117, 118, 119, 120, 121, 122] (by decide +kernel) (by decide +kernel)
set_option maxRecDepth 20000 in
theorem gX9_propose_X9_remember : GoodIn wsX9_propose (wsV RX9 174 RX9 yX9_remember wsX9_remember) := goodIn_app (goodIn_of _ (by decide +kernel)) ggX9_propose_X9_remember
set_option maxRecDepth 20000 in
theorem ggX9_propose_X9_margin : GoodIn wsX9_propose wsX9_margin := goodIn_r _ [42, 14, 43, 44, 45, 4, 46, 47, 48, 49, 50, 51, 52, 53, 54, 55, 56, 57, 58, 59, 60, 61, 62, 19, 20, 21, 22, 23, 24, 25, 63, 64, 65, 66, 67, 68, 69, 70, 71, 72, 73, 105, 106, 107, 108, 109, 110, 111, 112, 113, 114, 115, 116, 117, 118, 119, 120, 121, 122] (by decide +kernel) (by decide +kernel)
set_option maxRecDepth 20000 in
theorem gX9_propose_X9_margin : GoodIn wsX9_propose (wsV RX9 265 RX9 yX9_margin wsX9_margin) := goodIn_app (goodIn_of _ (by decide +kernel)) ggX9_propose_X9_margin
set_option maxRecDepth 20000 in
theorem ggX9_propose_X9_proposeNow : GoodIn wsX9_propose wsX9_proposeNow := goodIn_r _ [77, 14, 78, 79, 80, 4, 81, 19, 20, 21, 22, 23, 24, 25, 82, 83, 84, 85, 86, 87, 88, 89, 90, 91, 92, 93, 94, 95, 96, 97, 98, 99, 100, 101, 102, 103, 104, 105, 106, 107, 108, 109, 110, 111, 112, 113, 114, 115, 116, 117, 118, 119, 120, 121, 122] (by decide +kernel) (by decide +kernel)
set_option maxRecDepth 20000 in
theorem gX9_propose_X9_proposeNow : GoodIn wsX9_propose (wsV RX9 288 RX9 yX9_proposeNow wsX9_proposeNow) := goodIn_app (goodIn_of _ (by decide +kernel)) ggX9_propose_X9_proposeNow
set_option maxRecDepth 20000 in
theorem ggX9_ask_X9_noPlayer : GoodIn wsX9_ask wsX9_noPlayer := goodIn_r _ [7, 2, 8, 9, 6, 10, 11, 12, 13, 14, 1, 46, 47, 48, 49, 50, 51, 52, 53, 54, 55, 56, 57, 58, 59, 60, 61, 62, 63] (by decide +kernel) (by decide +kernel)
set_option maxRecDepth 20000 in
theorem gX9_ask_X9_noPlayer : GoodIn wsX9_ask (wsV RX9 270 RX9 yX9_noPlayer wsX9_noPlayer) := goodIn_app (goodIn_of _ (by decide +kernel)) ggX9_ask_X9_noPlayer
set_option maxRecDepth 20000 in
theorem ggX9_ask_X9_isUp : GoodIn wsX9_ask wsX9_isUp := goodIn_r _ [18, 19, 20, 21, 6, 22, 2, 23, 24, 25, 46, 47, 48, 49, 50, 51, 52, 53, 54, 55, 56, 57, 58, 59, 60, 61, 62, 63] (by decide +kernel) (by decide +kernel)
set_option maxRecDepth 20000 in
theorem gX9_ask_X9_isUp : GoodIn wsX9_ask (wsV RX9 228 RX9 yX9_isUp wsX9_isUp) := goodIn_app (goodIn_of _ (by decide +kernel)) ggX9_ask_X9_isUp
set_option maxRecDepth 20000 in
theorem ggX9_ask_X9_fails : GoodIn wsX9_ask wsX9_fails := goodIn_r _ [14, 1, 46, 47, 48, 49, 50, 51, 52, 53, 54, 55, 56, 57, 58, 59, 60, 61, 62, 63] (by decide +kernel) (by decide +kernel)
set_option maxRecDepth 20000 in
theorem gX9_ask_X9_fails : GoodIn wsX9_ask (wsV RX9 167 RX9 yX9_fails wsX9_fails) := goodIn_app (goodIn_of _ (by decide +kernel)) ggX9_ask_X9_fails
set_option maxRecDepth 20000 in
theorem ggX9_pass_X9_in : GoodIn wsX9_pass wsX9_in := goodIn_r _ [6] (by decide +kernel) (by decide +kernel)
set_option maxRecDepth 20000 in
theorem gX9_pass_X9_in : GoodIn wsX9_pass (va_wsS RX9 65 yX9_in wsX9_in) := goodIn_app (goodIn_of _ (by decide +kernel)) ggX9_pass_X9_in
set_option maxRecDepth 20000 in
theorem ggX9_pass_X9_fails : GoodIn wsX9_pass wsX9_fails := goodIn_r _ [10, 1, 90, 91, 92, 93, 94, 95, 96, 97, 98, 99, 100, 101, 102, 103, 104, 105, 106, 107] (by decide +kernel) (by decide +kernel)
set_option maxRecDepth 20000 in
theorem gX9_pass_X9_fails : GoodIn wsX9_pass (wsV RX9 167 RX9 yX9_fails wsX9_fails) := goodIn_app (goodIn_of _ (by decide +kernel)) ggX9_pass_X9_fails
set_option maxRecDepth 20000 in
theorem ggX9_pass_X9_remember : GoodIn wsX9_pass wsX9_remember := goodIn_r _ [14, 15, 16, 2, 17, 18, 5, 19, 90, 91, 92, 93, 94, 95, 96, 97, 98, 99, 100, 101, 102, 103, 104, 105, 106, 107] (by decide +kernel) (by decide +kernel)
set_option maxRecDepth 20000 in
theorem gX9_pass_X9_remember : GoodIn wsX9_pass (wsV RX9 174 RX9 yX9_remember wsX9_remember) := goodIn_app (goodIn_of _ (by decide +kernel)) ggX9_pass_X9_remember
set_option maxRecDepth 20000 in
theorem ggX9_pass_X9_tick : GoodIn wsX9_pass wsX9_tick := goodIn_r _ [23, 2, 24, 25, 26, 5, 27, 28, 29, 30, 31, 32, 33, 34, 35, 36, 37, 38, 39, 40, 41, 42, 43, 44, 45, 46, 47, 48, 49, 50, 51, 52, 53, 54, 55, 56, 57, 58, 59, 60, 61, 62, 63, 64, 65, 66, 67, 68, 69, 70, 71, 72, 73, 74, 75, 76, 77, 78, 79, 80, 81, 82, 83, 84, 85, 86, 87, 88, 89, 90, 91, 92, 93, 94, 95, 96, 97, 98, 99, 100, 101, 102, 103, 104, 105, 106, 107] (by decide +kernel) (by decide +kernel)
set_option maxRecDepth 20000 in
theorem gX9_pass_X9_tick : GoodIn wsX9_pass (wsV RX9 259 RX9 yX9_tick wsX9_tick) := goodIn_app (goodIn_of _ (by decide +kernel)) ggX9_pass_X9_tick
set_option maxRecDepth 20000 in
theorem ggX9_power_X9_noPlayer : GoodIn wsX9_power wsX9_noPlayer := goodIn_r _ [6, 7, 8, 9, 5, 10, 11, 12, 13, 14, 1, 43, 44, 45, 46, 47, 48, 49, 50, 51, 52, 53, 54, 55, 56, 57, 58, 59, 60] (by decide +kernel) (by decide +kernel)
set_option maxRecDepth 20000 in
theorem gX9_power_X9_noPlayer : GoodIn wsX9_power (wsV RX9 270 RX9 yX9_noPlayer wsX9_noPlayer) := goodIn_app (goodIn_of _ (by decide +kernel)) ggX9_power_X9_noPlayer
set_option maxRecDepth 20000 in
theorem ggX9_power_X9_remember : GoodIn wsX9_power wsX9_remember := goodIn_r _ [18, 19, 20, 7, 21, 22, 5, 23, 43, 44, 45, 46, 47, 48, 49, 50, 51, 52, 53, 54, 55, 56, 57, 58, 59, 60] (by decide +kernel) (by decide +kernel)
set_option maxRecDepth 20000 in
theorem gX9_power_X9_remember : GoodIn wsX9_power (wsV RX9 174 RX9 yX9_remember wsX9_remember) := goodIn_app (goodIn_of _ (by decide +kernel)) ggX9_power_X9_remember
set_option maxRecDepth 20000 in
theorem ggX9_power_X9_isUp : GoodIn wsX9_power wsX9_isUp := goodIn_r _ [27, 28, 29, 30, 5, 31, 7, 32, 33, 34, 43, 44, 45, 46, 47, 48, 49, 50, 51, 52, 53, 54, 55, 56, 57, 58, 59, 60] (by decide +kernel) (by decide +kernel)
set_option maxRecDepth 20000 in
theorem gX9_power_X9_isUp : GoodIn wsX9_power (wsV RX9 228 RX9 yX9_isUp wsX9_isUp) := goodIn_app (goodIn_of _ (by decide +kernel)) ggX9_power_X9_isUp
set_option maxRecDepth 20000 in
theorem ggX9_power_X9_set : GoodIn wsX9_power wsX9_set := goodIn_r _ [38, 7, 32, 33, 5, 34, 43, 44, 45, 46, 47, 48, 49, 50, 51, 52, 53, 54, 55, 56, 57, 58, 59, 60] (by decide +kernel) (by decide +kernel)
set_option maxRecDepth 20000 in
theorem gX9_power_X9_set : GoodIn wsX9_power (wsV RX9 217 RX9 yX9_set wsX9_set) := goodIn_app (goodIn_of _ (by decide +kernel)) ggX9_power_X9_set
set_option maxRecDepth 20000 in
theorem ggX9_power_X9_dropPlan : GoodIn wsX9_power wsX9_dropPlan := goodIn_r _ [42, 35, 36, 37, 5, 38, 7, 32, 33, 34, 43, 44, 45, 46, 47, 48, 49, 50, 51, 52, 53, 54, 55, 56, 57, 58, 59, 60] (by decide +kernel) (by decide +kernel)
set_option maxRecDepth 20000 in
theorem gX9_power_X9_dropPlan : GoodIn wsX9_power (wsV RX9 237 RX9 yX9_dropPlan wsX9_dropPlan) := goodIn_app (goodIn_of _ (by decide +kernel)) ggX9_power_X9_dropPlan
set_option maxRecDepth 20000 in
theorem ggX9_cut_X9_noPlayer : GoodIn wsX9_cut wsX9_noPlayer := goodIn_r _ [11, 2, 12, 13, 10, 14, 15, 16, 17, 18, 1, 31, 32, 33, 34, 35, 36, 37, 38, 39, 40, 41, 42, 43, 44, 45, 46, 47, 48] (by decide +kernel) (by decide +kernel)
set_option maxRecDepth 20000 in
theorem gX9_cut_X9_noPlayer : GoodIn wsX9_cut (wsV RX9 270 RX9 yX9_noPlayer wsX9_noPlayer) := goodIn_app (goodIn_of _ (by decide +kernel)) ggX9_cut_X9_noPlayer
set_option maxRecDepth 20000 in
theorem ggX9_cut_X9_linkAt : GoodIn wsX9_cut wsX9_linkAt := goodIn_r _ [21] (by decide +kernel) (by decide +kernel)
set_option maxRecDepth 20000 in
theorem gX9_cut_X9_linkAt : GoodIn wsX9_cut (va_wsS RX9 145 yX9_linkAt wsX9_linkAt) := goodIn_app (goodIn_of _ (by decide +kernel)) ggX9_cut_X9_linkAt
set_option maxRecDepth 20000 in
theorem ggX9_cut_X9_fails : GoodIn wsX9_cut wsX9_fails := goodIn_r _ [18, 1, 31, 32, 33, 34, 35, 36, 37, 38, 39, 40, 41, 42, 43, 44, 45, 46, 47, 48] (by decide +kernel) (by decide +kernel)
set_option maxRecDepth 20000 in
theorem gX9_cut_X9_fails : GoodIn wsX9_cut (wsV RX9 167 RX9 yX9_fails wsX9_fails) := goodIn_app (goodIn_of _ (by decide +kernel)) ggX9_cut_X9_fails
set_option maxRecDepth 20000 in
theorem ggX9_lead_X9_noPlayer : GoodIn wsX9_lead wsX9_noPlayer := goodIn_r _ [7, 2, 8, 9, 6, 10, 11, 12, 13, 14, 1, 31, 32, 33, 34, 35, 36, 37, 38, 39, 40, 41, 42, 43, 44, 45, 46, 47, 48] (by decide +kernel) (by decide +kernel)
set_option maxRecDepth 20000 in
theorem gX9_lead_X9_noPlayer : GoodIn wsX9_lead (wsV RX9 270 RX9 yX9_noPlayer wsX9_noPlayer) := goodIn_app (goodIn_of _ (by decide +kernel)) ggX9_lead_X9_noPlayer
set_option maxRecDepth 20000 in
theorem ggX9_lead_X9_remember : GoodIn wsX9_lead wsX9_remember := goodIn_r _ [18, 19, 20, 2, 21, 22, 6, 23, 31, 32, 33, 34, 35, 36, 37, 38, 39, 40, 41, 42, 43, 44, 45, 46, 47, 48] (by decide +kernel) (by decide +kernel)
set_option maxRecDepth 20000 in
theorem gX9_lead_X9_remember : GoodIn wsX9_lead (wsV RX9 174 RX9 yX9_remember wsX9_remember) := goodIn_app (goodIn_of _ (by decide +kernel)) ggX9_lead_X9_remember
set_option maxRecDepth 20000 in
theorem ggX9_lead_X9_set : GoodIn wsX9_lead wsX9_set := goodIn_r _ [27, 2, 28, 29, 6, 30, 31, 32, 33, 34, 35, 36, 37, 38, 39, 40, 41, 42, 43, 44, 45, 46, 47, 48] (by decide +kernel) (by decide +kernel)
set_option maxRecDepth 20000 in
theorem gX9_lead_X9_set : GoodIn wsX9_lead (wsV RX9 217 RX9 yX9_set wsX9_set) := goodIn_app (goodIn_of _ (by decide +kernel)) ggX9_lead_X9_set
set_option maxRecDepth 20000 in
theorem ggX9_checksum_X9_told : GoodIn wsX9_checksum wsX9_told := goodIn_r _ [8, 3, 9, 10, 11, 7, 12, 13, 14, 15, 16, 17, 18, 19, 20, 21, 22, 23, 24, 25, 26, 27, 28, 29, 30, 31, 32, 33, 34, 35, 36, 37, 38, 39, 40, 41, 42, 43, 44, 45, 46, 47, 48, 49, 50, 51, 52, 53, 54, 55, 56, 57, 58, 79, 80, 81, 82, 83, 84, 85, 86, 87, 88, 89, 90, 91, 92, 93, 94, 95, 96] (by decide +kernel) (by decide +kernel)
set_option maxRecDepth 20000 in
theorem gX9_checksum_X9_told : GoodIn wsX9_checksum (wsV RX9 267 RX9 yX9_told wsX9_told) := goodIn_app (goodIn_of _ (by decide +kernel)) ggX9_checksum_X9_told
set_option maxRecDepth 20000 in
theorem ggX9_checksum_X9_toldPlayer : GoodIn wsX9_checksum wsX9_toldPlayer := goodIn_r _ [62, 3, 17, 18, 19, 7, 20, 21, 22, 23, 63, 64, 65, 66, 67, 68, 69, 70, 79, 80, 81, 82, 83, 84, 85, 86, 87, 88, 89, 90, 91, 92, 93, 94, 95, 96] (by decide +kernel) (by decide +kernel)
set_option maxRecDepth 20000 in
theorem gX9_checksum_X9_toldPlayer : GoodIn wsX9_checksum (wsV RX9 273 RX9 yX9_toldPlayer wsX9_toldPlayer) := goodIn_app (goodIn_of _ (by decide +kernel)) ggX9_checksum_X9_toldPlayer
set_option maxRecDepth 20000 in
theorem ggL_load_X8_load : GoodIn wsL_load wsX8_load := goodIn_ca (goodIn_r _ [6, 7, 8, 9, 10, 11, 12, 13, 14, 15, 16, 17, 18, 19, 20, 21, 22, 23, 24, 25, 26, 27, 28, 29, 30, 31, 32, 33, 34, 35, 36, 37, 38, 39, 40, 41, 42, 43, 44, 45, 46, 47, 48, 49, 50, 51, 52, 53, 54, 55, 56, 57, 58, 59, 60, 61, 62, 63, 64, 65, 66, 67, 68, 69, 70, 71, 72, 73, 74, 75, 76, 77, 78, 79, 80, 81, 82, 83, 84, 85, 86, 87, 88, 89, 90, 91, 92, 93, 94, 95, 96, 97, 98, 99, 100, 101, 102, 103, 104, 105, 106, 107, 108, 109, 110, 111, 112, 113, 114, 115, 116, 117, 118, 119, 120, 121, 122, 123, 124, 125, 126, 127, 128, 129, 130, 131, 132, 133, 134, 135, 136, 137, 138, 139, 140, 141, 142, 143, 144, 145, 146, 147, 148, 149, 150, 151, 152, 153, 154, 155, 156, 157, 158, 159, 160, 161, 162, 163, 164, 165, 166, 167, 168, 169, 170, 171, 172, 173, 174, 175, 176, 177, 178, 179, 180, 181, 182, 183, 184, 185, 186, 187, 188, 189, 190, 191, 192, 193, 194, 195, 196, 197, 198, 199, 200, 201, 202, 203, 204, 205, 206, 207, 208, 209, 210, 211, 212, 213, 214, 215, 216, 217, 218, 219, 220, 221, 222, 223, 224, 225, 226, 227, 5, 228, 229, 230, 231, 232, 233, 234, 235, 236, 237, 238, 239, 240, 241, 242, 243, 244, 245, 246, 247, 248, 249, 250, 251, 252, 253, 254, 255, 256, 257, 258, 259, 260, 261, 262, 263, 264, 265, 266, 267, 268, 269, 270, 271, 272, 273, 274, 275, 276, 277, 278, 279, 280, 281, 282, 283, 284, 285, 286, 287, 288, 289, 290, 291, 292, 293, 294, 295, 296, 297, 298, 299, 300, 301, 302, 303, 304, 305, 306, 307, 308, 309, 310, 311, 312, 313, 314, 315, 316, 317, 318, 319, 320, 321, 322, 323, 324, 325, 326, 327, 328, 329, 330, 331, 332, 333, 334, 335, 336, 337, 338, 339, 340, 341, 342, 343, 344, 345, 346, 347, 348, 349, 350, 351, 352, 353, 354, 355, 356, 357, 358, 359, 360, 361, 362, 363, 364, 365, 366, 367, 368, 369, 370, 371, 372, 373, 374, 375, 376, 377, 378, 379, 380, 381, 382, 383] (by decide +kernel) (by decide +kernel)) (goodIn_sub (fun _ h => List.mem_cons_of_mem _ (List.mem_append_right _ h)) (by decide +kernel))
set_option maxRecDepth 20000 in
theorem gL_load_X8_load : GoodIn wsL_load (wsV RL 7 RX8 yX8_load wsX8_load) := goodIn_app (goodIn_of _ (by decide +kernel)) ggL_load_X8_load
set_option maxRecDepth 20000 in
theorem ggL_state_X8_state : GoodIn wsL_state wsX8_state := goodIn_ca (goodIn_r _ [6, 7, 8, 9, 10, 5, 11, 12, 13, 14, 15, 16, 17, 18, 19, 20, 21, 22, 23, 24, 25, 26, 27, 28, 29, 30, 31, 32, 33, 34, 35, 36, 37, 38, 39, 40, 41, 42, 43, 44, 45, 46, 47, 48, 49, 50, 51, 52, 53, 54, 55, 56, 57, 58, 59, 60, 61, 62, 63, 64, 65, 66, 67, 68, 69, 70, 71, 72, 73, 74, 75, 76, 77, 78, 79, 80, 81, 82, 83, 84, 85, 86, 87, 88, 89, 90, 91, 92, 93, 94, 95, 96, 97, 98, 99, 100, 101, 102, 103, 104, 105, 106, 107, 108, 109, 110, 111, 112, 113, 114, 115, 116, 117, 118, 119, 120, 121, 122, 123, 124, 125, 126, 127, 128, 129, 130, 131, 132, 133, 134, 135, 136, 137, 138, 139, 140, 141, 142, 143, 144, 145, 146, 147] (by decide +kernel) (by decide +kernel)) (goodIn_sub (fun _ h => List.mem_cons_of_mem _ (List.mem_append_right _ h)) (by decide +kernel))
set_option maxRecDepth 20000 in
theorem gL_state_X8_state : GoodIn wsL_state (wsV RL 15 RX8 yX8_state wsX8_state) := goodIn_app (goodIn_of _ (by decide +kernel)) ggL_state_X8_state
set_option maxRecDepth 20000 in
theorem ggL_player_X8_player : GoodIn wsL_player wsX8_player := goodIn_ca (goodIn_ca (goodIn_r _ [7, 8, 9, 10, 11, 6, 12, 13, 14, 15, 16, 17, 18, 19, 20, 21, 22, 23, 24, 25, 26, 27, 28, 29, 30, 31, 32, 33, 34, 35, 36, 37, 38, 39, 40, 41, 42, 43, 44, 45, 46, 47, 48, 49, 50, 51, 52, 53, 54, 55, 56, 57, 58, 59, 60, 61, 62, 63, 64, 65, 66, 67, 68, 69, 70, 71, 72, 73, 74, 75, 76, 77, 78, 79, 80, 81, 82, 83, 84, 85, 86, 87, 88, 89, 90, 91, 92, 93] (by decide +kernel) (by decide +kernel)) (goodIn_sub (fun _ h => List.mem_cons_of_mem _ (List.mem_append_left _ (List.mem_append_right _ h))) (by decide +kernel))) (goodIn_sub (fun _ h => List.mem_cons_of_mem _ (List.mem_append_right _ h)) (by decide +kernel))
set_option maxRecDepth 20000 in
theorem gL_player_X8_player : GoodIn wsL_player (wsV RL 18 RX8 yX8_player wsX8_player) := goodIn_app (goodIn_of _ (by decide +kernel)) ggL_player_X8_player
set_option maxRecDepth 20000 in
theorem ggL_link_X8_link : GoodIn wsL_link wsX8_link := goodIn_ca (goodIn_r _ [6, 7, 8, 9, 10, 5, 11, 12, 13, 14, 15, 16, 17, 18, 19, 20, 21, 22, 23, 24, 25, 26, 27, 28, 29, 30, 31, 32, 33, 34, 35, 36, 37, 38, 39, 40, 41, 42, 43, 44, 45, 46, 47, 48, 49, 50, 51, 52, 53, 54, 55, 56, 57, 58, 59, 60, 61, 62, 63, 64, 65] (by decide +kernel) (by decide +kernel)) (goodIn_sub (fun _ h => List.mem_cons_of_mem _ (List.mem_append_right _ h)) (by decide +kernel))
set_option maxRecDepth 20000 in
theorem gL_link_X8_link : GoodIn wsL_link (wsV RL 24 RX8 yX8_link wsX8_link) := goodIn_app (goodIn_of _ (by decide +kernel)) ggL_link_X8_link
set_option maxRecDepth 20000 in
theorem ggL_message_X8_message : GoodIn wsL_message wsX8_message := goodIn_ca (goodIn_ca (goodIn_r _ [7, 8, 9, 10, 11, 12, 13, 6, 14, 15, 16, 17, 18, 19, 20, 21, 22, 23, 24, 25, 26, 27, 28, 29, 30, 31, 32, 33, 34, 35, 36, 37, 38, 39, 40, 41, 42, 43, 44, 45, 46, 47, 48, 49, 50, 51, 52, 53, 54, 55, 56, 57, 58, 59, 60, 61, 62, 63, 64, 65, 66, 67, 68, 69, 70, 71, 72, 73, 74, 75, 76, 77, 78] (by decide +kernel) (by decide +kernel)) (goodIn_sub (fun _ h => List.mem_cons_of_mem _ (List.mem_append_left _ (List.mem_append_right _ h))) (by decide +kernel))) (goodIn_sub (fun _ h => List.mem_cons_of_mem _ (List.mem_append_right _ h)) (by decide +kernel))
set_option maxRecDepth 20000 in
theorem gL_message_X8_message : GoodIn wsL_message (wsV RL 27 RX8 yX8_message wsX8_message) := goodIn_app (goodIn_of _ (by decide +kernel)) ggL_message_X8_message
set_option maxRecDepth 20000 in
theorem ggL_proposal_X8_proposal : GoodIn wsL_proposal wsX8_proposal := goodIn_ca (goodIn_ca (goodIn_r _ [7, 8, 9, 10, 11, 12, 13, 6, 14, 15, 16, 17, 18, 19, 20, 21, 22, 23, 24, 25, 26, 27, 28, 29, 30, 31, 32, 33, 34, 35, 36, 37, 38, 39, 40, 41, 42, 43, 44, 45, 46, 47, 48, 49, 50, 51, 52, 53, 54, 55, 56, 57, 58] (by decide +kernel) (by decide +kernel)) (goodIn_sub (fun _ h => List.mem_cons_of_mem _ (List.mem_append_left _ (List.mem_append_right _ h))) (by decide +kernel))) (goodIn_sub (fun _ h => List.mem_cons_of_mem _ (List.mem_append_right _ h)) (by decide +kernel))
set_option maxRecDepth 20000 in
theorem gL_proposal_X8_proposal : GoodIn wsL_proposal (wsV RL 32 RX8 yX8_proposal wsX8_proposal) := goodIn_app (goodIn_of _ (by decide +kernel)) ggL_proposal_X8_proposal
set_option maxRecDepth 20000 in
theorem ggL_foretold_X8_foretold : GoodIn wsL_foretold wsX8_foretold := goodIn_ca (goodIn_r _ [6, 7, 8, 9, 10, 11, 5, 12, 13, 14, 15, 16, 17, 18, 19, 20, 21, 22, 23, 24, 25, 26, 27, 28, 29, 30, 31, 32, 33, 34, 35, 36, 37, 38, 39, 40, 41, 42, 43, 44, 45, 46, 47, 48, 49, 50, 51, 52, 53, 54, 55, 56, 57, 58, 59, 60, 61, 62, 63, 64, 65, 66, 67, 68, 69, 70, 71, 72, 73, 74, 75, 76, 77, 78, 79, 80, 81, 82, 83, 84, 85, 86, 87, 88, 89, 90, 91, 92, 93, 94, 95, 96, 97, 98, 99, 100, 101, 102, 103, 104, 105, 106, 107, 108, 109, 110, 111, 112, 113, 114, 115, 116, 117, 118, 119, 120, 121, 122, 123, 124, 125, 126, 127, 128, 129, 130, 131, 132, 133, 134, 135, 136, 137, 138, 139, 140, 141, 142, 143, 144, 145, 146, 147, 148, 149, 150, 151, 152, 153, 154, 155, 156, 157, 158, 159, 160, 161, 162, 163, 164, 165, 166, 167, 168, 169, 170, 171, 172, 173, 174, 175, 176, 177, 178, 179, 180, 181, 182, 183, 184, 185, 186, 187, 188, 189, 190, 191, 192, 193, 194, 195, 196, 197, 198, 199, 200, 201, 202, 203, 204, 205, 206, 207, 208, 209, 210, 211, 212, 213, 214, 215, 216, 217, 218, 219, 220, 221, 222, 223, 224, 225, 226, 227, 228, 229, 230, 231, 232, 233, 234, 235, 236, 237, 238, 239, 240, 241, 242, 243, 244, 245, 246, 247, 248, 249, 250, 251, 252, 253, 254, 255, 256, 257, 258, 259, 260] (by decide +kernel) (by decide +kernel)) (goodIn_sub (fun _ h => List.mem_cons_of_mem _ (List.mem_append_right _ h)) (by decide +kernel))
set_option maxRecDepth 20000 in
theorem gL_foretold_X8_foretold : GoodIn wsL_foretold (wsV RL 35 RX8 yX8_foretold wsX8_foretold) := goodIn_app (goodIn_of _ (by decide +kernel)) ggL_foretold_X8_foretold
set_option maxRecDepth 20000 in
theorem ggL_propose_X8_propose : GoodIn wsL_propose wsX8_propose := goodIn_ca (goodIn_ca (goodIn_r _ [7, 8, 9, 10, 11, 12, 13, 14, 15, 16, 17, 18, 19, 20, 21, 22, 23, 24, 25, 26, 27, 6, 28, 29, 30, 31, 32, 33, 34, 35, 36, 37, 38, 39, 40, 41, 42, 43, 44, 45, 46, 47, 48, 49, 50, 51, 52, 53, 54, 55, 56, 57, 58, 59, 60, 61, 62, 63, 64, 65, 66, 67, 68, 69, 70, 71, 72, 73, 74, 75, 76, 77, 78, 79, 80, 81, 82, 83, 84, 85, 86, 87, 88, 89, 90, 91, 92, 93, 94, 95, 96, 97, 98, 99, 100, 101, 102, 103, 104, 105, 106, 107, 108, 109, 110, 111, 112, 113, 114, 115, 116, 117, 118, 119, 120, 121, 122, 123, 124, 125, 126, 127, 128, 129, 130, 131, 132, 133, 134, 135, 136, 137, 138, 139, 140, 141, 142, 143, 144, 145, 146, 147, 148, 149, 150, 151, 152, 153, 154, 155, 156, 157, 158, 159, 160, 161, 162, 163, 164, 165, 166, 167, 168, 169, 170, 171, 172, 173, 174, 175, 176, 177, 178, 179, 180, 181, 182, 183, 184, 185, 186, 187, 188, 189, 190, 191, 192, 193, 194, 195, 196, 197, 198, 199, 200, 201, 202, 203, 204, 205, 206, 207, 208, 209, 210, 211, 212, 213, 214, 215, 216, 217, 218, 219, 220, 221, 222, 223, 224, 225, 226, 227, 228, 229, 230, 231, 232, 233, 234, 235, 236, 237, 238, 239, 240, 241, 242, 243, 244, 245, 246] (by decide +kernel) (by decide +kernel)) (goodIn_sub (fun _ h => List.mem_cons_of_mem _ (List.mem_append_left _ (List.mem_append_right _ h))) (by decide +kernel))) (goodIn_sub (fun _ h => List.mem_cons_of_mem _ (List.mem_append_right _ h)) (by decide +kernel))
set_option maxRecDepth 20000 in
theorem gL_propose_X8_propose : GoodIn wsL_propose (wsV RL 38 RX8 yX8_propose wsX8_propose) := goodIn_app (goodIn_of _ (by decide +kernel)) ggL_propose_X8_propose
set_option maxRecDepth 20000 in
theorem ggL_ask_X8_ask : GoodIn wsL_ask wsX8_ask := goodIn_ca (goodIn_ca (goodIn_r _ [7, 8, 9, 10, 11, 12, 13, 6, 14, 15, 16, 17, 18, 19, 20, 21, 22, 23, 24, 25, 26, 27, 28, 29, 30, 31, 32, 33, 34, 35, 36, 37, 38, 39, 40, 41, 42, 43, 44, 45, 46, 47, 48, 49, 50, 51, 52, 53, 54, 55, 56, 57, 58, 59, 60, 61, 62, 63, 64, 65, 66, 67, 68, 69, 70, 71, 72, 73, 74, 75, 76, 77, 78, 79, 80, 81, 82, 83, 84, 85, 86, 87, 88, 89, 90, 91, 92, 93, 94, 95, 96, 97, 98, 99, 100, 101, 102, 103, 104, 105, 106, 107, 108, 109, 110, 111, 112, 113, 114, 115, 116, 117, 118, 119, 120, 121, 122, 123, 124, 125, 126, 127, 128, 129, 130, 131, 132, 133, 134, 135, 136, 137, 138, 139, 140, 141, 142, 143, 144, 145, 146, 147, 148, 149, 150, 151, 152, 153, 154, 155, 156, 157, 158, 159, 160, 161, 162, 163, 164, 165, 166, 167, 168, 169, 170, 171, 172, 173, 174, 175, 176, 177, 178, 179, 180, 181, 182, 183, 184, 185, 186, 187, 188] (by decide +kernel) (by decide +kernel)) (goodIn_sub (fun _ h => List.mem_cons_of_mem _ (List.mem_append_left _ (List.mem_append_right _ h))) (by decide +kernel))) (goodIn_sub (fun _ h => List.mem_cons_of_mem _ (List.mem_append_right _ h)) (by decide +kernel))
set_option maxRecDepth 20000 in
theorem gL_ask_X8_ask : GoodIn wsL_ask (wsV RL 43 RX8 yX8_ask wsX8_ask) := goodIn_app (goodIn_of _ (by decide +kernel)) ggL_ask_X8_ask
set_option maxRecDepth 20000 in
theorem ggL_pass_X8_pass : GoodIn wsL_pass wsX8_pass := goodIn_ca (goodIn_r _ [6, 7, 8, 9, 10, 11, 12, 5, 13, 14, 15, 16, 17, 18, 19, 20, 21, 22, 23, 24, 25, 26, 27, 28, 29, 30, 31, 32, 33, 34, 35, 36, 37, 38, 39, 40, 41, 42, 43, 44, 45, 46, 47, 48, 49, 50, 51, 52, 53, 54, 55, 56, 57, 58, 59, 60, 61, 62, 63, 64, 65, 66, 67, 68, 69, 70, 71, 72, 73, 74, 75, 76, 77, 78, 79, 80, 81, 82, 83, 84, 85, 86, 87, 88, 89, 90, 91, 92, 93, 94, 95, 96, 97, 98, 99, 100, 101, 102, 103, 104, 105, 106, 107, 108, 109, 110, 111, 112, 113, 114, 115, 116, 117, 118, 119, 120, 121, 122, 123, 124, 125, 126, 127, 128, 129, 130, 131, 132, 133, 134, 135, 136, 137, 138, 139, 140, 141, 142, 143, 144, 145, 146, 147, 148, 149, 150, 151, 152, 153, 154, 155, 156, 157, 158, 159, 160, 161, 162, 163, 164, 165, 166, 167, 168, 169, 170, 171, 172, 173, 174, 175, 176, 177, 178, 179, 180, 181, 182, 183, 184, 185, 186, 187, 188, 189, 190, 191, 192, 193, 194, 195, 196, 197, 198, 199, 200, 201, 202, 203, 204, 205, 206, 207, 208, 209, 210, 211, 212, 213, 214, 215, 216, 217, 218, 219, 220, 221, 222, 223, 224, 225, 226, 227, 228, 229, 230, 231, 232, 233, 234, 235, 236, 237, 238, 239, 240, 241, 242] (by decide +kernel) (by decide +kernel)) (goodIn_sub (fun _ h => List.mem_cons_of_mem _ (List.mem_append_right _ h)) (by decide +kernel))
set_option maxRecDepth 20000 in
theorem gL_pass_X8_pass : GoodIn wsL_pass (wsV RL 47 RX8 yX8_pass wsX8_pass) := goodIn_app (goodIn_of _ (by decide +kernel)) ggL_pass_X8_pass
set_option maxRecDepth 20000 in
theorem ggL_power_X8_power : GoodIn wsL_power wsX8_power := goodIn_ca (goodIn_r _ [6, 7, 8, 9, 10, 5, 11, 12, 13, 14, 15, 16, 17, 18, 19, 20, 21, 22, 23, 24, 25, 26, 27, 28, 29, 30, 31, 32, 33, 34, 35, 36, 37, 38, 39, 40, 41, 42, 43, 44, 45, 46, 47, 48, 49, 50, 51, 52, 53, 54, 55, 56, 57, 58, 59, 60, 61, 62, 63, 64, 65, 66, 67, 68, 69, 70, 71, 72, 73, 74, 75, 76, 77, 78, 79, 80, 81, 82, 83, 84, 85, 86, 87, 88, 89, 90, 91, 92, 93, 94, 95, 96, 97, 98, 99, 100, 101, 102, 103, 104, 105, 106, 107, 108, 109, 110, 111, 112, 113, 114, 115, 116, 117, 118, 119, 120, 121, 122, 123, 124, 125, 126, 127, 128, 129, 130, 131, 132, 133, 134, 135, 136, 137, 138, 139, 140, 141, 142, 143, 144, 145, 146, 147, 148, 149] (by decide +kernel) (by decide +kernel)) (goodIn_sub (fun _ h => List.mem_cons_of_mem _ (List.mem_append_right _ h)) (by decide +kernel))
set_option maxRecDepth 20000 in
theorem gL_power_X8_power : GoodIn wsL_power (wsV RL 50 RX8 yX8_power wsX8_power) := goodIn_app (goodIn_of _ (by decide +kernel)) ggL_power_X8_power
set_option maxRecDepth 20000 in
theorem ggL_cut_X8_cut : GoodIn wsL_cut wsX8_cut := goodIn_ca (goodIn_ca (goodIn_r _ [7, 8, 9, 10, 11, 12, 13, 6, 14, 15, 16, 17, 18, 19, 20, 21, 22, 23, 24, 25, 26, 27, 28, 29, 30, 31, 32, 33, 34, 35, 36, 37, 38, 39, 40, 41, 42, 43, 44, 45, 46, 47, 48, 49, 50, 51, 52, 53, 54, 55, 56, 57, 58, 59, 60, 61, 62, 63, 64, 65, 66, 67, 68, 69, 70, 71, 72, 73, 74, 75, 76, 77, 78, 79, 80, 81, 82, 83, 84, 85, 86, 87, 88, 89, 90, 91, 92, 93, 94, 95, 96, 97, 98, 99, 100, 101, 102, 103, 104, 105, 106, 107, 108, 109, 110, 111, 112, 113, 114, 115, 116, 117, 118, 119, 120, 121, 122, 123, 124, 125, 126, 127, 128, 129, 130, 131, 132, 133, 134, 135, 136, 137, 138, 139, 140, 141, 142, 143, 144, 145, 146, 147, 148, 149, 150, 151, 152, 153, 154, 155, 156, 157, 158, 159, 160, 161, 162, 163, 164, 165, 166] (by decide +kernel) (by decide +kernel)) (goodIn_sub (fun _ h => List.mem_cons_of_mem _ (List.mem_append_left _ (List.mem_append_right _ h))) (by decide +kernel))) (goodIn_sub (fun _ h => List.mem_cons_of_mem _ (List.mem_append_right _ h)) (by decide +kernel))
set_option maxRecDepth 20000 in
theorem gL_cut_X8_cut : GoodIn wsL_cut (wsV RL 54 RX8 yX8_cut wsX8_cut) := goodIn_app (goodIn_of _ (by decide +kernel)) ggL_cut_X8_cut
set_option maxRecDepth 20000 in
theorem ggL_lead_X8_lead : GoodIn wsL_lead wsX8_lead := goodIn_ca (goodIn_r _ [6, 7, 8, 9, 10, 5, 11, 12, 13, 14, 15, 16, 17, 18, 19, 20, 21, 22, 23, 24, 25, 26, 27, 28, 29, 30, 31, 32, 33, 34, 35, 36, 37, 38, 39, 40, 41, 42, 43, 44, 45, 46, 47, 48, 49, 50, 51, 52, 53, 54, 55, 56, 57, 58, 59, 60, 61, 62, 63, 64, 65, 66, 67, 68, 69, 70, 71, 72, 73, 74, 75, 76, 77, 78, 79, 80, 81, 82, 83, 84, 85, 86, 87, 88, 89, 90, 91, 92, 93, 94, 95, 96, 97, 98, 99, 100, 101, 102, 103, 104, 105, 106, 107, 108, 109, 110, 111, 112, 113, 114, 115, 116, 117, 118, 119, 120, 121, 122, 123, 124, 125, 126, 127, 128, 129, 130, 131, 132, 133, 134, 135, 136, 137, 138, 139, 140, 141, 142, 143, 144] (by decide +kernel) (by decide +kernel)) (goodIn_sub (fun _ h => List.mem_cons_of_mem _ (List.mem_append_right _ h)) (by decide +kernel))
set_option maxRecDepth 20000 in
theorem gL_lead_X8_lead : GoodIn wsL_lead (wsV RL 58 RX8 yX8_lead wsX8_lead) := goodIn_app (goodIn_of _ (by decide +kernel)) ggL_lead_X8_lead
set_option maxRecDepth 20000 in
theorem ggL_law_X8_init : GoodIn wsL_law wsX8_init := goodIn_r _ [9, 10, 11, 12, 13, 14, 15, 16, 17, 18, 19, 20, 21, 22, 23, 24, 25, 26, 27, 28, 29, 30, 31, 32, 33, 34, 35, 36, 37, 38, 39, 40, 41, 42, 43, 44, 45, 46, 47, 48, 49, 50, 51, 52, 53, 54, 55, 56, 57, 58, 59, 60, 61, 62, 63, 64, 65, 66, 67, 68, 69, 70, 71, 72, 73, 74, 75, 76, 77, 78, 79, 80, 81, 82, 83, 84, 85, 86, 87, 88, 89, 90, 91, 92, 93, 94, 95, 96, 97, 98, 99, 100, 101, 102, 103, 104, 105, 106, 107, 108, 109, 110, 111, 112, 113, 114, 115, 116, 117, 118, 119, 120, 121, 122, 123, 124, 125, 126, 127, 128, 129, 130, 131, 1090, 1091, 1092, 1093, 1094, 1095, 1096, 1097, 1098, 1099, 1100, 1101, 1102, 1103, 1065, 1066, 1067, 1068, 1069, 1070, 1071, 1104, 1105, 1106, 1107, 1108, 1109, 1110, 1111, 1112, 1113, 1114, 1115, 1116, 1117, 1118, 1119, 1120, 1121, 1122, 1123, 1124, 1125, 1126, 1127, 1128, 1129, 1130, 1131, 1132, 1133, 1134, 1135, 1136, 1137, 1138, 1139, 1140, 1141, 1142, 1143, 1144, 1145, 1146, 1147, 1148, 1149, 1150, 1151, 1152, 1153, 1154, 1155] (by decide +kernel) (by decide +kernel)
set_option maxRecDepth 20000 in
theorem gL_law_X8_init : GoodIn wsL_law (wsX8_init) := ggL_law_X8_init
set_option maxRecDepth 20000 in
theorem ggL_law_X9_init : GoodIn wsL_law wsX9_init := goodIn_r _ [134, 135, 11, 12, 29, 136, 137, 138, 139, 140, 141, 142, 143, 6, 144, 145, 146, 5, 147, 148, 149, 150, 1072, 1073, 1074, 1075, 1076, 1077, 1078, 1079, 1080, 1081, 1082, 1083, 1084, 1085, 1086, 1087, 1088, 1089] (by decide +kernel) (by decide +kernel)
set_option maxRecDepth 20000 in
theorem gL_law_X9_init : GoodIn wsL_law (wsX9_init) := ggL_law_X9_init
set_option maxRecDepth 20000 in
theorem ggL_law_X8_append : GoodIn wsL_law wsX8_append := goodIn_r _ [154, 16, 155, 156, 157, 15, 158, 159, 28, 160, 161, 162, 163, 1065, 1066, 1067, 1068, 1069, 1070, 1071, 1090, 1091, 1092, 1093, 1094, 1095, 1096, 1097, 1098, 1099, 1100, 1101, 1102, 1103] (by decide +kernel) (by decide +kernel)
set_option maxRecDepth 20000 in
theorem gL_law_X8_append : GoodIn wsL_law (wsV RL 65 RX8 yX8_append wsX8_append) := goodIn_app (goodIn_of _ (by decide +kernel)) ggL_law_X8_append
set_option maxRecDepth 20000 in
theorem ggL_law_X9_append : GoodIn wsL_law wsX9_append := goodIn_r _ [167, 168, 169, 136, 1072, 1073, 1074, 1075, 1076, 1077, 1078, 1079, 1080, 1081, 1082, 1083, 1084, 1085, 1086, 1087, 1088, 1089] (by decide +kernel) (by decide +kernel)
set_option maxRecDepth 20000 in
theorem gL_law_X9_append : GoodIn wsL_law (wsV RL 69 RX9 yX9_append wsX9_append) := goodIn_app (goodIn_of _ (by decide +kernel)) ggL_law_X9_append
set_option maxRecDepth 20000 in
theorem ggL_law_L_load : GoodIn wsL_law wsL_load := goodIn_ca (goodIn_r _ [173, 174, 175, 176, 177, 2, 178, 179, 180, 16, 23, 20, 181, 182, 183, 15, 184, 28, 185, 186, 187, 188, 189, 190, 191, 192, 159, 193, 194, 195, 196, 53, 54, 197, 198, 199, 200, 201, 202, 203, 204, 205, 206, 207, 208, 209, 210, 211, 212, 213, 214, 215, 216, 217, 218, 219, 220, 221, 222, 223, 224, 225, 226, 227, 228, 229, 230, 231, 232, 233, 234, 235, 236, 237, 238, 239, 240, 241, 242, 243, 244, 245, 246, 247, 248, 249, 250, 251, 252, 253, 254, 255, 256, 257, 258, 259, 260, 261, 262, 263, 264, 265, 266, 267, 268, 269, 270, 271, 272, 273, 274, 71, 72, 73, 11, 12, 74, 75, 29, 76, 77, 78, 79, 275, 276, 277, 278, 279, 280, 281, 282, 283, 284, 285, 286, 287, 288, 289, 30, 290, 291, 292, 293, 294, 295, 296, 297, 298, 299, 300, 301, 302, 303, 304, 305, 306, 307, 308, 309, 310, 311, 312, 313, 314, 315, 316, 317, 318, 319, 320, 321, 322, 323, 324, 325, 326, 327, 328, 329, 330, 331, 332, 333, 334, 335, 336, 337, 338, 339, 340, 341, 342, 343, 344, 345, 346, 347, 348, 349, 350, 351, 352, 353, 354, 355, 356, 124, 357, 358, 359, 360, 361, 362, 363, 364, 365, 366, 367, 368, 369, 81, 82, 83, 84, 85, 370, 371, 372, 373, 374, 22, 375, 376, 377, 378, 19, 379, 90, 36, 40, 44, 91, 92, 93, 94, 95, 96, 97, 98, 99, 100, 380, 381, 382, 383, 384, 385, 386, 51, 387, 105, 106, 107, 115, 116, 388, 389, 108, 109, 110, 390, 391, 392, 39, 393, 59, 60, 394, 395, 121, 396, 397, 398, 43, 399, 400, 401, 402, 403, 404, 130, 131, 405, 406, 87, 88, 89, 101, 102, 103, 104, 111, 112, 113, 114, 117, 118, 119, 120, 122, 123, 125, 126, 127, 128, 129, 1065, 1066, 1067, 1068, 1069, 1070, 1071, 1090, 1091, 1092, 1093, 1094, 1095, 1096, 1097, 1098, 1099, 1100, 1101, 1102, 1103, 1148, 1149, 1150, 1151, 1152, 1153, 1154, 1155, 1156, 1157, 1104, 1105, 1106, 1107, 1108, 1109, 1110, 1111, 1112, 1113, 1114, 1115, 1116, 1117, 1118, 1119, 1138, 1139, 1140, 1141, 1142, 1143, 1144, 1145, 1146, 1147, 1120, 1121, 1122, 1123, 1124, 1125, 1126, 1127, 1128, 1129, 1130] (by decide +kernel) (by decide +kernel)) (goodIn_sub (fun _ h => List.mem_append_left _ (List.mem_append_left _ (List.mem_append_left _ (List.mem_append_right _ h)))) (by decide +kernel))
set_option maxRecDepth 20000 in
theorem gL_law_L_load : GoodIn wsL_law (va_wsS RL 70 yL_load wsL_load) := goodIn_app (goodIn_of _ (by decide +kernel)) ggL_law_L_load
set_option maxRecDepth 20000 in
theorem ggL_law_X9_load : GoodIn wsL_law wsX9_load := goodIn_r _ [410, 168, 169, 411, 412, 413, 414, 415, 416, 417, 141, 137, 139, 418, 419, 5, 420, 421, 422, 423, 424, 425, 426, 427, 428, 429, 430, 431, 432, 433, 434, 435, 436, 437, 438, 439, 440, 136, 441, 216, 217, 218, 219, 220, 221, 222, 223, 224, 225, 226, 442, 228, 229, 230, 231, 232, 233, 234, 235, 236, 237, 238, 239, 240, 241, 242, 243, 244, 245, 246, 247, 248, 249, 250, 251, 252, 253, 254, 255, 256, 257, 258, 259, 260, 261, 262, 263, 443, 444, 445, 446, 447, 448, 449, 450, 451, 452, 453, 454, 455, 456, 457, 458, 145, 146, 147, 148, 149, 150, 459, 460, 461, 462, 463, 464, 465, 466, 467, 468, 469, 470, 471, 472, 473, 474, 475, 476, 477, 478, 479, 480, 481, 482, 483, 484, 485, 486, 487, 488, 489, 490, 491, 492, 493, 494, 495, 496, 497, 498, 499, 500, 501, 502, 503, 504, 505, 506, 143, 507, 508, 509, 1072, 1073, 1074, 1075, 1076, 1077, 1078, 1079, 1080, 1081, 1082, 1083, 1084, 1085, 1086, 1087, 1088, 1089] (by decide +kernel) (by decide +kernel)
set_option maxRecDepth 20000 in
theorem gL_law_X9_load : GoodIn wsL_law (wsV RL 75 RX9 yX9_load wsX9_load) := goodIn_app (goodIn_of _ (by decide +kernel)) ggL_law_X9_load
set_option maxRecDepth 20000 in
theorem ggL_law_X9_thrown : GoodIn wsL_law wsX9_thrown := goodIn_r _ [513, 168, 1072, 1073, 1074, 1075, 1076, 1077, 1078, 1079, 1080, 1081, 1082, 1083, 1084, 1085, 1086, 1087, 1088, 1089] (by decide +kernel) (by decide +kernel)
set_option maxRecDepth 20000 in
theorem gL_law_X9_thrown : GoodIn wsL_law (wsV RL 76 RX9 yX9_thrown wsX9_thrown) := goodIn_app (goodIn_of _ (by decide +kernel)) ggL_law_X9_thrown
set_option maxRecDepth 20000 in
theorem ggL_law_X8_errorOffset : GoodIn wsL_law wsX8_errorOffset := goodIn_r _ [517, 23, 1065, 1066, 1067, 1068, 1069, 1070, 1071] (by decide +kernel) (by decide +kernel)
set_option maxRecDepth 20000 in
theorem gL_law_X8_errorOffset : GoodIn wsL_law (wsV RL 80 RX8 yX8_errorOffset wsX8_errorOffset) := goodIn_app (goodIn_of _ (by decide +kernel)) ggL_law_X8_errorOffset
set_option maxRecDepth 20000 in
theorem ggL_law_X9_errorOffset : GoodIn wsL_law wsX9_errorOffset := goodIn_r _ [521, 168, 137, 1072, 1073, 1074, 1075, 1076, 1077, 1078, 1079, 1080, 1081, 1082, 1083, 1084, 1085, 1086, 1087, 1088, 1089] (by decide +kernel) (by decide +kernel)
set_option maxRecDepth 20000 in
theorem gL_law_X9_errorOffset : GoodIn wsL_law (wsV RL 83 RX9 yX9_errorOffset wsX9_errorOffset) := goodIn_app (goodIn_of _ (by decide +kernel)) ggL_law_X9_errorOffset
set_option maxRecDepth 20000 in
theorem ggL_law_L_state : GoodIn wsL_law wsL_state := goodIn_ca (goodIn_r _ [524, 174, 525, 526, 527, 2, 528, 20, 529, 530, 531, 532, 179, 180, 533, 534, 535, 19, 536, 90, 92, 93, 40, 94, 95, 96, 97, 98, 99, 100, 537, 538, 539, 540, 380, 381, 382, 383, 36, 541, 542, 543, 544, 545, 546, 547, 548, 549, 186, 187, 188, 550, 190, 191, 551, 552, 553, 554, 555, 556, 557, 558, 91, 559, 315, 54, 316, 560, 561, 562, 563, 564, 311, 312, 313, 78, 314, 565, 566, 567, 568, 569, 570, 571, 289, 572, 354, 353, 573, 574, 575, 576, 577, 578, 579, 580, 581, 582, 583, 584, 585, 586, 1065, 1066, 1067, 1068, 1069, 1070, 1071, 1104, 1105, 1106, 1107, 1108, 1109, 1110, 1111, 1112, 1113, 1114, 1115, 1116, 1117, 1118, 1119, 1148, 1149, 1150, 1151, 1152, 1153, 1154, 1155, 1120, 1121, 1122, 1138, 1139, 1140, 1141, 1142, 1143, 1144, 1145, 1146, 1147, 1156, 1157] (by decide +kernel) (by decide +kernel)) (goodIn_sub (fun _ h => List.mem_append_left _ (List.mem_append_left _ (List.mem_append_left _ (List.mem_append_right _ h)))) (by decide +kernel))
set_option maxRecDepth 20000 in
theorem gL_law_L_state : GoodIn wsL_law (va_wsS RL 84 yL_state wsL_state) := goodIn_app (goodIn_of _ (by decide +kernel)) ggL_law_L_state
set_option maxRecDepth 20000 in
theorem ggL_law_X9_state : GoodIn wsL_law wsX9_state := goodIn_r _ [590, 168, 418, 419, 5, 420, 421, 422, 423, 424, 591, 592, 593, 594, 139, 595, 596, 597, 598, 599, 600, 601, 602, 603, 604, 605, 606, 148, 149, 150, 607, 608, 609, 610, 611, 612, 613, 614, 144, 615, 616, 617, 618, 619, 620, 621, 622, 623, 624, 625, 626, 627, 628, 629, 630, 631, 632, 633, 634, 635, 636, 637, 456, 457, 458, 1072, 1073, 1074, 1075, 1076, 1077, 1078, 1079, 1080, 1081, 1082, 1083, 1084, 1085, 1086, 1087, 1088, 1089] (by decide +kernel) (by decide +kernel)
set_option maxRecDepth 20000 in
theorem gL_law_X9_state : GoodIn wsL_law (wsV RL 86 RX9 yX9_state wsX9_state) := goodIn_app (goodIn_of _ (by decide +kernel)) ggL_law_X9_state
set_option maxRecDepth 20000 in
theorem ggL_law_L_player : GoodIn wsL_law wsL_player := goodIn_ca (goodIn_ca (goodIn_r _ [640, 641, 174, 642, 643, 644, 2, 645, 20, 646, 647, 648, 649, 650, 651, 529, 530, 531, 532, 179, 180, 652, 653, 654, 19, 655, 380, 381, 382, 383, 36, 656, 657, 658, 659, 90, 92, 660, 661, 662, 54, 663, 76, 77, 664, 665, 666, 667, 93, 668, 669, 670, 671, 1065, 1066, 1067, 1068, 1069, 1070, 1071, 1104, 1105, 1106, 1107, 1108, 1109, 1110, 1111, 1112, 1113, 1114, 1115, 1116, 1117, 1118, 1119, 1148, 1149, 1150, 1151, 1152, 1153, 1154, 1155, 1138, 1139, 1140, 1141, 1142, 1143, 1144, 1145, 1146, 1147] (by decide +kernel) (by decide +kernel)) (goodIn_sub (fun _ h => List.mem_append_left _ (List.mem_append_left _ (List.mem_append_right _ h))) (by decide +kernel))) (goodIn_sub (fun _ h => List.mem_append_left _ (List.mem_append_left _ (List.mem_append_left _ (List.mem_append_right _ h)))) (by decide +kernel))
set_option maxRecDepth 20000 in
theorem gL_law_L_player : GoodIn wsL_law (va_wsS RL 87 yL_player wsL_player) := goodIn_app (goodIn_of _ (by decide +kernel)) ggL_law_L_player
set_option maxRecDepth 20000 in
theorem ggL_law_X9_player : GoodIn wsL_law wsX9_player := goodIn_r _ [675, 168, 676, 677, 678, 5, 679, 139, 418, 419, 420, 421, 422, 423, 424, 680, 681, 682, 683, 603, 604, 605, 606, 148, 149, 150, 684, 685, 686, 687, 688, 689, 690, 691, 1072, 1073, 1074, 1075, 1076, 1077, 1078, 1079, 1080, 1081, 1082, 1083, 1084, 1085, 1086, 1087, 1088, 1089] (by decide +kernel) (by decide +kernel)
set_option maxRecDepth 20000 in
theorem gL_law_X9_player : GoodIn wsL_law (wsV RL 90 RX9 yX9_player wsX9_player) := goodIn_app (goodIn_of _ (by decide +kernel)) ggL_law_X9_player
set_option maxRecDepth 20000 in
theorem ggL_law_L_link : GoodIn wsL_law wsL_link := goodIn_ca (goodIn_r _ [694, 641, 695, 696, 697, 2, 698, 20, 646, 647, 648, 649, 650, 651, 699, 556, 557, 19, 558, 91, 559, 315, 54, 316, 700, 561, 562, 563, 90, 564, 311, 312, 313, 78, 314, 1065, 1066, 1067, 1068, 1069, 1070, 1071, 1104, 1105, 1106, 1107, 1108, 1109, 1110, 1111, 1112, 1113, 1114, 1115, 1116, 1117, 1118, 1119, 1148, 1149, 1150, 1151, 1152, 1153, 1154, 1155] (by decide +kernel) (by decide +kernel)) (goodIn_sub (fun _ h => List.mem_append_left _ (List.mem_append_left _ (List.mem_append_right _ h))) (by decide +kernel))
set_option maxRecDepth 20000 in
theorem gL_law_L_link : GoodIn wsL_law (va_wsS RL 91 yL_link wsL_link) := goodIn_app (goodIn_of _ (by decide +kernel)) ggL_law_L_link
set_option maxRecDepth 20000 in
theorem ggL_law_X9_link : GoodIn wsL_law wsX9_link := goodIn_r _ [704, 168, 139, 676, 677, 678, 5, 679, 418, 419, 420, 421, 422, 423, 424, 479, 480, 481, 1072, 1073, 1074, 1075, 1076, 1077, 1078, 1079, 1080, 1081, 1082, 1083, 1084, 1085, 1086, 1087, 1088, 1089] (by decide +kernel) (by decide +kernel)
set_option maxRecDepth 20000 in
theorem gL_law_X9_link : GoodIn wsL_law (wsV RL 93 RX9 yX9_link wsX9_link) := goodIn_app (goodIn_of _ (by decide +kernel)) ggL_law_X9_link
set_option maxRecDepth 20000 in
theorem ggL_law_L_message : GoodIn wsL_law wsL_message := goodIn_ca (goodIn_ca (goodIn_r _ [707, 708, 174, 709, 710, 711, 2, 712, 713, 714, 20, 529, 530, 531, 532, 179, 180, 715, 716, 717, 19, 718, 40, 92, 48, 719, 720, 721, 39, 722, 60, 59, 723, 724, 725, 47, 726, 727, 728, 729, 730, 731, 732, 733, 734, 735, 1065, 1066, 1067, 1068, 1069, 1070, 1071, 1104, 1105, 1106, 1107, 1108, 1109, 1110, 1111, 1112, 1113, 1114, 1115, 1116, 1117, 1118, 1119, 1120, 1121, 1122, 1131, 1132, 1133, 1134, 1135, 1136, 1137] (by decide +kernel) (by decide +kernel)) (goodIn_sub (fun _ h => List.mem_append_left _ (List.mem_append_right _ h)) (by decide +kernel))) (goodIn_sub (fun _ h => List.mem_append_left _ (List.mem_append_left _ (List.mem_append_left _ (List.mem_append_right _ h)))) (by decide +kernel))
set_option maxRecDepth 20000 in
theorem gL_law_L_message : GoodIn wsL_law (va_wsS RL 94 yL_message wsL_message) := goodIn_app (goodIn_of _ (by decide +kernel)) ggL_law_L_message
set_option maxRecDepth 20000 in
theorem ggL_law_X9_message : GoodIn wsL_law wsX9_message := goodIn_r _ [739, 168, 139, 418, 419, 5, 420, 421, 422, 423, 424, 740, 741, 742, 743, 744, 745, 746, 747, 1072, 1073, 1074, 1075, 1076, 1077, 1078, 1079, 1080, 1081, 1082, 1083, 1084, 1085, 1086, 1087, 1088, 1089] (by decide +kernel) (by decide +kernel)
set_option maxRecDepth 20000 in
theorem gL_law_X9_message : GoodIn wsL_law (wsV RL 96 RX9 yX9_message wsX9_message) := goodIn_app (goodIn_of _ (by decide +kernel)) ggL_law_X9_message
set_option maxRecDepth 20000 in
theorem ggL_law_L_proposal : GoodIn wsL_law wsL_proposal := goodIn_ca (goodIn_ca (goodIn_r _ [750, 708, 174, 751, 752, 753, 2, 754, 713, 714, 20, 529, 530, 531, 532, 179, 180, 755, 756, 757, 43, 758, 400, 401, 402, 403, 404, 130, 1065, 1066, 1067, 1068, 1069, 1070, 1071, 1104, 1105, 1106, 1107, 1108, 1109, 1110, 1111, 1112, 1113, 1114, 1115, 1116, 1117, 1118, 1119, 1123, 1124, 1125, 1126, 1127, 1128, 1129, 1130] (by decide +kernel) (by decide +kernel)) (goodIn_sub (fun _ h => List.mem_append_left _ (List.mem_append_right _ h)) (by decide +kernel))) (goodIn_sub (fun _ h => List.mem_append_left _ (List.mem_append_left _ (List.mem_append_left _ (List.mem_append_right _ h)))) (by decide +kernel))
set_option maxRecDepth 20000 in
theorem gL_law_L_proposal : GoodIn wsL_law (va_wsS RL 97 yL_proposal wsL_proposal) := goodIn_app (goodIn_of _ (by decide +kernel)) ggL_law_L_proposal
set_option maxRecDepth 20000 in
theorem ggL_law_X9_proposal : GoodIn wsL_law wsX9_proposal := goodIn_r _ [762, 168, 139, 421, 422, 423, 5, 424, 418, 419, 420, 1072, 1073, 1074, 1075, 1076, 1077, 1078, 1079, 1080, 1081, 1082, 1083, 1084, 1085, 1086, 1087, 1088, 1089] (by decide +kernel) (by decide +kernel)
set_option maxRecDepth 20000 in
theorem gL_law_X9_proposal : GoodIn wsL_law (wsV RL 99 RX9 yX9_proposal wsX9_proposal) := goodIn_app (goodIn_of _ (by decide +kernel)) ggL_law_X9_proposal
set_option maxRecDepth 20000 in
theorem ggL_law_X8_spread : GoodIn wsL_law wsX8_spread := goodIn_r _ [766, 20, 767, 768, 769, 43, 770, 131, 405, 1065, 1066, 1067, 1068, 1069, 1070, 1071, 1104, 1105, 1106, 1107, 1108, 1109, 1110, 1111, 1112, 1113, 1114, 1115, 1116, 1117, 1118, 1119, 1123, 1124, 1125, 1126, 1127, 1128, 1129, 1130] (by decide +kernel) (by decide +kernel)
set_option maxRecDepth 20000 in
theorem gL_law_X8_spread : GoodIn wsL_law (wsV RL 100 RX8 yX8_spread wsX8_spread) := goodIn_app (goodIn_of _ (by decide +kernel)) ggL_law_X8_spread
set_option maxRecDepth 20000 in
theorem ggL_law_X9_spread : GoodIn wsL_law wsX9_spread := goodIn_r _ [774, 168, 775, 776, 777, 5, 778, 139, 1072, 1073, 1074, 1075, 1076, 1077, 1078, 1079, 1080, 1081, 1082, 1083, 1084, 1085, 1086, 1087, 1088, 1089] (by decide +kernel) (by decide +kernel)
set_option maxRecDepth 20000 in
theorem gL_law_X9_spread : GoodIn wsL_law (wsV RL 103 RX9 yX9_spread wsX9_spread) := goodIn_app (goodIn_of _ (by decide +kernel)) ggL_law_X9_spread
set_option maxRecDepth 20000 in
theorem ggL_law_L_foretold : GoodIn wsL_law wsL_foretold := goodIn_ca (goodIn_r _ [781, 174, 782, 783, 784, 2, 785, 21, 20, 529, 530, 531, 532, 179, 180, 376, 377, 378, 19, 379, 90, 36, 40, 44, 91, 92, 93, 94, 95, 96, 97, 98, 99, 100, 380, 381, 382, 383, 384, 385, 386, 51, 387, 105, 106, 107, 115, 116, 388, 389, 108, 109, 110, 390, 391, 392, 39, 393, 59, 60, 394, 186, 187, 188, 29, 395, 366, 367, 368, 121, 396, 397, 398, 43, 399, 400, 401, 402, 403, 404, 130, 131, 405, 786, 787, 788, 789, 790, 791, 792, 793, 794, 795, 796, 797, 48, 732, 733, 734, 735, 719, 720, 721, 722, 798, 799, 800, 801, 656, 657, 658, 659, 660, 661, 662, 54, 663, 76, 77, 802, 803, 804, 805, 49, 564, 311, 312, 313, 78, 314, 315, 316, 555, 556, 557, 558, 559, 806, 807, 808, 809, 810, 811, 812, 813, 814, 815, 816, 817, 818, 112, 113, 114, 819, 820, 821, 822, 823, 824, 825, 826, 827, 828, 829, 830, 831, 832, 833, 834, 835, 836, 837, 838, 668, 669, 670, 671, 839, 840, 841, 842, 843, 844, 845, 846, 847, 848, 849, 850, 111, 767, 768, 769, 770, 851, 538, 539, 540, 541, 542, 543, 544, 1065, 1066, 1067, 1068, 1069, 1070, 1071, 1104, 1105, 1106, 1107, 1108, 1109, 1110, 1111, 1112, 1113, 1114, 1115, 1116, 1117, 1118, 1119, 1123, 1124, 1125, 1126, 1127, 1128, 1129, 1130, 1138, 1139, 1140, 1141, 1142, 1143, 1144, 1145, 1146, 1147, 1120, 1121, 1122, 1148, 1149, 1150, 1151, 1152, 1153, 1154, 1155, 1131, 1132, 1133, 1134, 1135, 1136, 1137] (by decide +kernel) (by decide +kernel)) (goodIn_sub (fun _ h => List.mem_append_left _ (List.mem_append_left _ (List.mem_append_left _ (List.mem_append_right _ h)))) (by decide +kernel))
set_option maxRecDepth 20000 in
theorem gL_law_L_foretold : GoodIn wsL_law (va_wsS RL 104 yL_foretold wsL_foretold) := goodIn_app (goodIn_of _ (by decide +kernel)) ggL_law_L_foretold
set_option maxRecDepth 20000 in
theorem ggL_law_X9_foretold : GoodIn wsL_law wsX9_foretold := goodIn_r _ [855, 168, 139, 140, 418, 419, 5, 420, 421, 422, 423, 424, 507, 508, 509, 856, 857, 858, 859, 860, 861, 862, 863, 864, 865, 866, 867, 599, 600, 601, 602, 603, 604, 605, 606, 148, 149, 150, 868, 869, 870, 871, 872, 873, 874, 875, 876, 877, 878, 879, 684, 685, 686, 687, 880, 881, 882, 883, 479, 480, 481, 884, 885, 886, 887, 888, 889, 890, 891, 892, 893, 894, 895, 896, 897, 898, 899, 900, 901, 902, 903, 904, 905, 906, 907, 688, 689, 690, 691, 908, 909, 910, 911, 775, 776, 777, 778, 595, 596, 597, 598, 1072, 1073, 1074, 1075, 1076, 1077, 1078, 1079, 1080, 1081, 1082, 1083, 1084, 1085, 1086, 1087, 1088, 1089] (by decide +kernel) (by decide +kernel)
set_option maxRecDepth 20000 in
theorem gL_law_X9_foretold : GoodIn wsL_law (wsV RL 106 RX9 yX9_foretold wsX9_foretold) := goodIn_app (goodIn_of _ (by decide +kernel)) ggL_law_X9_foretold
set_option maxRecDepth 20000 in
theorem ggL_law_X8_safest : GoodIn wsL_law wsX8_safest := goodIn_r _ [915, 20, 21, 916, 917, 918, 19, 919, 93, 44, 380, 381, 382, 383, 36, 376, 377, 378, 379, 90, 40, 91, 92, 94, 95, 96, 97, 98, 99, 100, 384, 385, 386, 51, 387, 105, 106, 107, 115, 116, 388, 389, 108, 109, 110, 390, 391, 392, 39, 393, 59, 60, 394, 186, 187, 188, 29, 395, 366, 367, 368, 121, 396, 397, 398, 43, 399, 400, 401, 402, 403, 404, 130, 131, 405, 920, 921, 922, 923, 656, 657, 658, 659, 660, 661, 662, 54, 663, 76, 77, 924, 925, 926, 927, 810, 811, 812, 813, 823, 824, 825, 826, 802, 803, 804, 805, 49, 564, 311, 312, 313, 78, 314, 315, 316, 555, 556, 557, 558, 559, 806, 807, 808, 809, 819, 820, 821, 822, 786, 787, 788, 789, 790, 791, 792, 793, 794, 795, 796, 797, 48, 732, 733, 734, 735, 719, 720, 721, 722, 798, 799, 800, 801, 814, 815, 816, 817, 818, 112, 113, 114, 827, 828, 829, 830, 831, 832, 833, 834, 835, 836, 837, 838, 668, 669, 670, 671, 839, 840, 841, 842, 843, 844, 845, 846, 847, 848, 849, 850, 111, 1065, 1066, 1067, 1068, 1069, 1070, 1071, 1104, 1105, 1106, 1107, 1108, 1109, 1110, 1111, 1112, 1113, 1114, 1115, 1116, 1117, 1118, 1119, 1123, 1124, 1125, 1126, 1127, 1128, 1129, 1130, 1138, 1139, 1140, 1141, 1142, 1143, 1144, 1145, 1146, 1147, 1120, 1121, 1122, 1148, 1149, 1150, 1151, 1152, 1153, 1154, 1155, 1131, 1132, 1133, 1134, 1135, 1136, 1137] (by decide +kernel) (by decide +kernel)
set_option maxRecDepth 20000 in
theorem gL_law_X8_safest : GoodIn wsL_law (wsV RL 107 RX8 yX8_safest wsX8_safest) := goodIn_app (goodIn_of _ (by decide +kernel)) ggL_law_X8_safest
set_option maxRecDepth 20000 in
theorem ggL_law_X9_safest : GoodIn wsL_law wsX9_safest := goodIn_r _ [931, 168, 139, 140, 932, 933, 934, 5, 935, 599, 600, 601, 602, 603, 604, 605, 606, 148, 149, 150, 864, 865, 866, 867, 507, 508, 509, 936, 937, 938, 939, 940, 941, 942, 943, 684, 685, 686, 687, 888, 889, 890, 891, 884, 885, 886, 887, 896, 897, 898, 899, 880, 881, 882, 883, 479, 480, 481, 892, 893, 894, 895, 856, 857, 858, 859, 860, 861, 862, 863, 868, 869, 870, 871, 872, 873, 874, 875, 876, 877, 878, 879, 900, 901, 902, 903, 904, 905, 906, 907, 688, 689, 690, 691, 908, 909, 910, 911, 1072, 1073, 1074, 1075, 1076, 1077, 1078, 1079, 1080, 1081, 1082, 1083, 1084, 1085, 1086, 1087, 1088, 1089] (by decide +kernel) (by decide +kernel)
set_option maxRecDepth 20000 in
theorem gL_law_X9_safest : GoodIn wsL_law (wsV RL 110 RX9 yX9_safest wsX9_safest) := goodIn_app (goodIn_of _ (by decide +kernel)) ggL_law_X9_safest
set_option maxRecDepth 20000 in
theorem ggL_law_X8_meanError : GoodIn wsL_law wsX8_meanError := goodIn_r _ [947, 20, 948, 949, 187, 950, 951, 381, 382, 19, 383, 36, 952, 665, 666, 667, 93, 668, 669, 670, 671, 656, 657, 658, 659, 90, 92, 660, 661, 662, 54, 663, 76, 77, 380, 953, 566, 567, 568, 1065, 1066, 1067, 1068, 1069, 1070, 1071, 1104, 1105, 1106, 1107, 1108, 1109, 1110, 1111, 1112, 1113, 1114, 1115, 1116, 1117, 1118, 1119, 1148, 1149, 1150, 1151, 1152, 1153, 1154, 1155, 1138, 1139, 1140, 1141, 1142, 1143, 1144, 1145, 1146, 1147] (by decide +kernel) (by decide +kernel)
set_option maxRecDepth 20000 in
theorem gL_law_X8_meanError : GoodIn wsL_law (wsV RL 111 RX8 yX8_meanError wsX8_meanError) := goodIn_app (goodIn_of _ (by decide +kernel)) ggL_law_X8_meanError
set_option maxRecDepth 20000 in
theorem ggL_law_X9_meanError : GoodIn wsL_law wsX9_meanError := goodIn_r _ [957, 168, 139, 958, 949, 187, 950, 626, 627, 628, 5, 629, 603, 604, 605, 606, 148, 149, 150, 599, 600, 601, 602, 680, 681, 682, 683, 684, 685, 686, 687, 688, 689, 690, 691, 1072, 1073, 1074, 1075, 1076, 1077, 1078, 1079, 1080, 1081, 1082, 1083, 1084, 1085, 1086, 1087, 1088, 1089] (by decide +kernel) (by decide +kernel)
set_option maxRecDepth 20000 in
theorem gL_law_X9_meanError : GoodIn wsL_law (wsV RL 115 RX9 yX9_meanError wsX9_meanError) := goodIn_app (goodIn_of _ (by decide +kernel)) ggL_law_X9_meanError
set_option maxRecDepth 20000 in
theorem ggL_law_L_propose : GoodIn wsL_law wsL_propose := goodIn_ca (goodIn_ca (goodIn_r _ [961, 174, 962, 963, 964, 965, 2, 966, 179, 180, 967, 968, 20, 916, 917, 918, 19, 919, 93, 44, 380, 381, 382, 383, 36, 370, 371, 372, 373, 374, 22, 375, 376, 377, 378, 379, 90, 40, 91, 92, 94, 95, 96, 97, 98, 99, 100, 384, 385, 386, 51, 387, 105, 106, 107, 115, 116, 388, 389, 108, 109, 110, 390, 391, 392, 39, 393, 59, 60, 394, 186, 187, 188, 29, 395, 366, 367, 368, 121, 396, 397, 398, 43, 399, 400, 401, 402, 403, 404, 130, 131, 405, 969, 546, 547, 548, 549, 550, 190, 191, 551, 552, 553, 554, 555, 556, 557, 558, 559, 315, 54, 316, 560, 561, 562, 563, 564, 311, 312, 313, 78, 314, 565, 566, 567, 568, 569, 570, 571, 289, 572, 354, 353, 573, 574, 575, 576, 577, 578, 579, 580, 581, 582, 583, 584, 585, 586, 920, 921, 922, 923, 656, 657, 658, 659, 660, 661, 662, 663, 76, 77, 924, 925, 926, 927, 810, 811, 812, 813, 823, 824, 825, 826, 802, 803, 804, 805, 49, 806, 807, 808, 809, 819, 820, 821, 822, 1065, 1066, 1067, 1068, 1069, 1070, 1071, 1104, 1105, 1106, 1107, 1108, 1109, 1110, 1111, 1112, 1113, 1114, 1115, 1116, 1117, 1118, 1119, 1123, 1124, 1125, 1126, 1127, 1128, 1129, 1130, 1138, 1139, 1140, 1141, 1142, 1143, 1144, 1145, 1146, 1147, 1120, 1121, 1122, 1148, 1149, 1150, 1151, 1152, 1153, 1154, 1155, 1156, 1157, 1131, 1132, 1133, 1134, 1135, 1136, 1137] (by decide +kernel) (by decide +kernel)) (goodIn_sub (fun _ h => List.mem_append_left _ (List.mem_append_left _ (List.mem_append_left _ (List.mem_append_right _ h)))) (by decide +kernel))) (goodIn_sub (fun _ h => List.mem_append_right _ h) (by decide +kernel))
set_option maxRecDepth 20000 in
theorem gL_law_L_propose : GoodIn wsL_law (va_wsS RL 116 yL_propose wsL_propose) := goodIn_app (goodIn_of _ (by decide +kernel)) ggL_law_L_propose
set_option maxRecDepth 20000 in
theorem ggL_law_X9_propose : GoodIn wsL_law wsX9_propose := goodIn_r _ [973, 168, 418, 419, 5, 420, 421, 422, 423, 424, 932, 933, 934, 935, 139, 599, 600, 601, 602, 603, 604, 605, 606, 148, 149, 150, 864, 865, 866, 867, 502, 503, 504, 505, 506, 143, 507, 508, 509, 607, 608, 609, 610, 611, 612, 613, 614, 144, 615, 616, 617, 618, 619, 620, 621, 622, 623, 624, 625, 626, 627, 628, 629, 630, 631, 632, 633, 634, 635, 636, 637, 456, 457, 458, 940, 941, 942, 943, 684, 685, 686, 687, 888, 889, 890, 891, 884, 885, 886, 887, 896, 897, 898, 899, 880, 881, 882, 883, 479, 480, 481, 892, 893, 894, 895, 1072, 1073, 1074, 1075, 1076, 1077, 1078, 1079, 1080, 1081, 1082, 1083, 1084, 1085, 1086, 1087, 1088, 1089] (by decide +kernel) (by decide +kernel)
set_option maxRecDepth 20000 in
theorem gL_law_X9_propose : GoodIn wsL_law (wsV RL 118 RX9 yX9_propose wsX9_propose) := goodIn_app (goodIn_of _ (by decide +kernel)) ggL_law_X9_propose
set_option maxRecDepth 20000 in
theorem ggL_law_L_ask : GoodIn wsL_law wsL_ask := goodIn_ca (goodIn_ca (goodIn_r _ [976, 641, 962, 977, 978, 979, 2, 980, 967, 968, 20, 646, 647, 648, 649, 650, 651, 951, 381, 382, 19, 383, 36, 370, 371, 372, 373, 374, 22, 375, 376, 377, 378, 379, 90, 40, 44, 91, 92, 93, 94, 95, 96, 97, 98, 99, 100, 380, 384, 385, 386, 51, 387, 105, 106, 107, 115, 116, 388, 389, 108, 109, 110, 390, 391, 392, 39, 393, 59, 60, 394, 186, 187, 188, 29, 395, 366, 367, 368, 121, 396, 397, 398, 43, 399, 400, 401, 402, 403, 404, 130, 131, 405, 981, 982, 983, 984, 656, 657, 658, 659, 660, 661, 662, 54, 663, 76, 77, 802, 803, 804, 805, 49, 564, 311, 312, 313, 78, 314, 315, 316, 555, 556, 557, 558, 559, 806, 807, 808, 809, 1065, 1066, 1067, 1068, 1069, 1070, 1071, 1138, 1139, 1140, 1141, 1142, 1143, 1144, 1145, 1146, 1147, 1104, 1105, 1106, 1107, 1108, 1109, 1110, 1111, 1112, 1113, 1114, 1115, 1116, 1117, 1118, 1119, 1148, 1149, 1150, 1151, 1152, 1153, 1154, 1155, 1120, 1121, 1122, 1123, 1124, 1125, 1126, 1127, 1128, 1129, 1130, 1131, 1132, 1133, 1134, 1135, 1136, 1137] (by decide +kernel) (by decide +kernel)) (goodIn_sub (fun _ h => List.mem_append_right _ h) (by decide +kernel))) (goodIn_sub (fun _ h => List.mem_append_left _ (List.mem_append_left _ (List.mem_append_right _ h))) (by decide +kernel))
set_option maxRecDepth 20000 in
theorem gL_law_L_ask : GoodIn wsL_law (va_wsS RL 119 yL_ask wsL_ask) := goodIn_app (goodIn_of _ (by decide +kernel)) ggL_law_L_ask
set_option maxRecDepth 20000 in
theorem ggL_law_X9_ask : GoodIn wsL_law wsX9_ask := goodIn_r _ [988, 168, 139, 676, 677, 678, 5, 679, 418, 419, 420, 421, 422, 423, 424, 599, 600, 601, 602, 603, 604, 605, 606, 148, 149, 150, 502, 503, 504, 505, 506, 143, 507, 508, 509, 684, 685, 686, 687, 880, 881, 882, 883, 479, 480, 481, 1072, 1073, 1074, 1075, 1076, 1077, 1078, 1079, 1080, 1081, 1082, 1083, 1084, 1085, 1086, 1087, 1088, 1089] (by decide +kernel) (by decide +kernel)
set_option maxRecDepth 20000 in
theorem gL_law_X9_ask : GoodIn wsL_law (wsV RL 121 RX9 yX9_ask wsX9_ask) := goodIn_app (goodIn_of _ (by decide +kernel)) ggL_law_X9_ask
set_option maxRecDepth 20000 in
theorem ggL_law_L_pass : GoodIn wsL_law wsL_pass := goodIn_ca (goodIn_r _ [991, 174, 992, 993, 994, 2, 995, 179, 180, 20, 370, 371, 372, 373, 374, 22, 375, 376, 377, 378, 19, 379, 90, 36, 40, 44, 91, 92, 93, 94, 95, 96, 97, 98, 99, 100, 380, 381, 382, 383, 384, 385, 386, 51, 387, 105, 106, 107, 115, 116, 388, 389, 108, 109, 110, 390, 391, 392, 39, 393, 59, 60, 394, 186, 187, 188, 29, 395, 366, 367, 368, 121, 396, 397, 398, 43, 399, 400, 401, 402, 403, 404, 130, 131, 405, 996, 795, 796, 797, 48, 732, 733, 734, 735, 719, 720, 721, 722, 798, 799, 800, 801, 656, 657, 658, 659, 660, 661, 662, 54, 663, 76, 77, 802, 803, 804, 805, 49, 564, 311, 312, 313, 78, 314, 315, 316, 555, 556, 557, 558, 559, 806, 807, 808, 809, 810, 811, 812, 813, 814, 815, 816, 817, 818, 112, 113, 114, 819, 820, 821, 822, 823, 824, 825, 826, 827, 828, 829, 830, 831, 832, 833, 834, 835, 836, 837, 838, 668, 669, 670, 671, 839, 840, 841, 842, 843, 844, 845, 846, 847, 848, 849, 850, 111, 1065, 1066, 1067, 1068, 1069, 1070, 1071, 1104, 1105, 1106, 1107, 1108, 1109, 1110, 1111, 1112, 1113, 1114, 1115, 1116, 1117, 1118, 1119, 1138, 1139, 1140, 1141, 1142, 1143, 1144, 1145, 1146, 1147, 1120, 1121, 1122, 1123, 1124, 1125, 1126, 1127, 1128, 1129, 1130, 1148, 1149, 1150, 1151, 1152, 1153, 1154, 1155, 1131, 1132, 1133, 1134, 1135, 1136, 1137] (by decide +kernel) (by decide +kernel)) (goodIn_sub (fun _ h => List.mem_append_left _ (List.mem_append_left _ (List.mem_append_left _ (List.mem_append_right _ h)))) (by decide +kernel))
set_option maxRecDepth 20000 in
theorem gL_law_L_pass : GoodIn wsL_law (va_wsS RL 122 yL_pass wsL_pass) := goodIn_app (goodIn_of _ (by decide +kernel)) ggL_law_L_pass
set_option maxRecDepth 20000 in
theorem ggL_law_X9_pass : GoodIn wsL_law wsX9_pass := goodIn_r _ [1000, 168, 139, 418, 419, 5, 420, 421, 422, 423, 424, 502, 503, 504, 505, 506, 143, 507, 508, 509, 868, 869, 870, 871, 872, 873, 874, 875, 876, 877, 878, 879, 599, 600, 601, 602, 603, 604, 605, 606, 148, 149, 150, 684, 685, 686, 687, 880, 881, 882, 883, 479, 480, 481, 884, 885, 886, 887, 888, 889, 890, 891, 864, 865, 866, 867, 892, 893, 894, 895, 896, 897, 898, 899, 900, 901, 902, 903, 904, 905, 906, 907, 688, 689, 690, 691, 908, 909, 910, 911, 1072, 1073, 1074, 1075, 1076, 1077, 1078, 1079, 1080, 1081, 1082, 1083, 1084, 1085, 1086, 1087, 1088, 1089] (by decide +kernel) (by decide +kernel)
set_option maxRecDepth 20000 in
theorem gL_law_X9_pass : GoodIn wsL_law (wsV RL 124 RX9 yX9_pass wsX9_pass) := goodIn_app (goodIn_of _ (by decide +kernel)) ggL_law_X9_pass
set_option maxRecDepth 20000 in
theorem ggL_law_L_power : GoodIn wsL_law wsL_power := goodIn_ca (goodIn_r _ [1003, 641, 1004, 1005, 1006, 2, 1007, 20, 646, 647, 648, 649, 650, 651, 370, 371, 372, 373, 374, 22, 375, 376, 377, 378, 19, 379, 90, 36, 40, 44, 91, 92, 93, 94, 95, 96, 97, 98, 99, 100, 380, 381, 382, 383, 384, 385, 386, 51, 387, 105, 106, 107, 115, 116, 388, 389, 108, 109, 110, 390, 391, 392, 39, 393, 59, 60, 394, 186, 187, 188, 29, 395, 366, 367, 368, 121, 396, 397, 398, 43, 399, 400, 401, 402, 403, 404, 130, 131, 405, 951, 1008, 1009, 1010, 1011, 111, 112, 113, 114, 1065, 1066, 1067, 1068, 1069, 1070, 1071, 1104, 1105, 1106, 1107, 1108, 1109, 1110, 1111, 1112, 1113, 1114, 1115, 1116, 1117, 1118, 1119, 1148, 1149, 1150, 1151, 1152, 1153, 1154, 1155, 1138, 1139, 1140, 1141, 1142, 1143, 1144, 1145, 1146, 1147, 1120, 1121, 1122, 1123, 1124, 1125, 1126, 1127, 1128, 1129, 1130] (by decide +kernel) (by decide +kernel)) (goodIn_sub (fun _ h => List.mem_append_left _ (List.mem_append_left _ (List.mem_append_right _ h))) (by decide +kernel))
set_option maxRecDepth 20000 in
theorem gL_law_L_power : GoodIn wsL_law (va_wsS RL 125 yL_power wsL_power) := goodIn_app (goodIn_of _ (by decide +kernel)) ggL_law_L_power
set_option maxRecDepth 20000 in
theorem ggL_law_X9_power : GoodIn wsL_law wsX9_power := goodIn_r _ [1015, 168, 676, 677, 678, 5, 679, 139, 418, 419, 420, 421, 422, 423, 424, 502, 503, 504, 505, 506, 143, 507, 508, 509, 599, 600, 601, 602, 603, 604, 605, 606, 148, 149, 150, 884, 885, 886, 887, 900, 901, 902, 903, 1072, 1073, 1074, 1075, 1076, 1077, 1078, 1079, 1080, 1081, 1082, 1083, 1084, 1085, 1086, 1087, 1088, 1089] (by decide +kernel) (by decide +kernel)
set_option maxRecDepth 20000 in
theorem gL_law_X9_power : GoodIn wsL_law (wsV RL 128 RX9 yX9_power wsX9_power) := goodIn_app (goodIn_of _ (by decide +kernel)) ggL_law_X9_power
set_option maxRecDepth 20000 in
theorem ggL_law_L_cut : GoodIn wsL_law wsL_cut := goodIn_ca (goodIn_ca (goodIn_r _ [1018, 641, 962, 1019, 1020, 1021, 2, 1022, 967, 968, 20, 646, 647, 648, 649, 650, 651, 700, 561, 562, 19, 563, 90, 564, 311, 312, 54, 313, 78, 314, 315, 316, 370, 371, 372, 373, 374, 22, 375, 376, 377, 378, 379, 36, 40, 44, 91, 92, 93, 94, 95, 96, 97, 98, 99, 100, 380, 381, 382, 383, 384, 385, 386, 51, 387, 105, 106, 107, 115, 116, 388, 389, 108, 109, 110, 390, 391, 392, 39, 393, 59, 60, 394, 186, 187, 188, 29, 395, 366, 367, 368, 121, 396, 397, 398, 43, 399, 400, 401, 402, 403, 404, 130, 131, 405, 699, 556, 557, 558, 559, 1023, 1024, 1025, 1026, 1027, 1065, 1066, 1067, 1068, 1069, 1070, 1071, 1104, 1105, 1106, 1107, 1108, 1109, 1110, 1111, 1112, 1113, 1114, 1115, 1116, 1117, 1118, 1119, 1148, 1149, 1150, 1151, 1152, 1153, 1154, 1155, 1138, 1139, 1140, 1141, 1142, 1143, 1144, 1145, 1146, 1147, 1120, 1121, 1122, 1123, 1124, 1125, 1126, 1127, 1128, 1129, 1130] (by decide +kernel) (by decide +kernel)) (goodIn_sub (fun _ h => List.mem_append_right _ h) (by decide +kernel))) (goodIn_sub (fun _ h => List.mem_append_left _ (List.mem_append_left _ (List.mem_append_right _ h))) (by decide +kernel))
set_option maxRecDepth 20000 in
theorem gL_law_L_cut : GoodIn wsL_law (va_wsS RL 129 yL_cut wsL_cut) := goodIn_app (goodIn_of _ (by decide +kernel)) ggL_law_L_cut
set_option maxRecDepth 20000 in
theorem ggL_law_X9_cut : GoodIn wsL_law wsX9_cut := goodIn_r _ [1031, 168, 139, 958, 949, 187, 950, 676, 677, 678, 5, 679, 418, 419, 420, 421, 422, 423, 424, 479, 480, 481, 502, 503, 504, 505, 506, 143, 507, 508, 509, 1072, 1073, 1074, 1075, 1076, 1077, 1078, 1079, 1080, 1081, 1082, 1083, 1084, 1085, 1086, 1087, 1088, 1089] (by decide +kernel) (by decide +kernel)
set_option maxRecDepth 20000 in
theorem gL_law_X9_cut : GoodIn wsL_law (wsV RL 132 RX9 yX9_cut wsX9_cut) := goodIn_app (goodIn_of _ (by decide +kernel)) ggL_law_X9_cut
set_option maxRecDepth 20000 in
theorem ggL_law_L_lead : GoodIn wsL_law wsL_lead := goodIn_ca (goodIn_r _ [1034, 641, 1035, 1036, 1037, 2, 1038, 20, 646, 647, 648, 649, 650, 651, 370, 371, 372, 373, 374, 22, 375, 376, 377, 378, 19, 379, 90, 36, 40, 44, 91, 92, 93, 94, 95, 96, 97, 98, 99, 100, 380, 381, 382, 383, 384, 385, 386, 51, 387, 105, 106, 107, 115, 116, 388, 389, 108, 109, 110, 390, 391, 392, 39, 393, 59, 60, 394, 186, 187, 188, 29, 395, 366, 367, 368, 121, 396, 397, 398, 43, 399, 400, 401, 402, 403, 404, 130, 131, 405, 1039, 1040, 1041, 1042, 1065, 1066, 1067, 1068, 1069, 1070, 1071, 1104, 1105, 1106, 1107, 1108, 1109, 1110, 1111, 1112, 1113, 1114, 1115, 1116, 1117, 1118, 1119, 1148, 1149, 1150, 1151, 1152, 1153, 1154, 1155, 1138, 1139, 1140, 1141, 1142, 1143, 1144, 1145, 1146, 1147, 1120, 1121, 1122, 1123, 1124, 1125, 1126, 1127, 1128, 1129, 1130] (by decide +kernel) (by decide +kernel)) (goodIn_sub (fun _ h => List.mem_append_left _ (List.mem_append_left _ (List.mem_append_right _ h))) (by decide +kernel))
set_option maxRecDepth 20000 in
theorem gL_law_L_lead : GoodIn wsL_law (va_wsS RL 133 yL_lead wsL_lead) := goodIn_app (goodIn_of _ (by decide +kernel)) ggL_law_L_lead
set_option maxRecDepth 20000 in
theorem ggL_law_X9_lead : GoodIn wsL_law wsX9_lead := goodIn_r _ [1046, 168, 139, 676, 677, 678, 5, 679, 418, 419, 420, 421, 422, 423, 424, 502, 503, 504, 505, 506, 143, 507, 508, 509, 884, 885, 886, 887, 148, 149, 150, 1072, 1073, 1074, 1075, 1076, 1077, 1078, 1079, 1080, 1081, 1082, 1083, 1084, 1085, 1086, 1087, 1088, 1089] (by decide +kernel) (by decide +kernel)
set_option maxRecDepth 20000 in
theorem gL_law_X9_lead : GoodIn wsL_law (wsV RL 135 RX9 yX9_lead wsX9_lead) := goodIn_app (goodIn_of _ (by decide +kernel)) ggL_law_X9_lead
set_option maxRecDepth 20000 in
theorem ggL_law_X8_undo : GoodIn wsL_law wsX8_undo := goodIn_r _ [1050, 375, 20, 22, 374, 376, 377, 378, 19, 379, 90, 36, 40, 44, 91, 92, 93, 94, 95, 96, 97, 98, 99, 100, 380, 381, 382, 383, 384, 385, 386, 51, 387, 105, 106, 107, 115, 116, 388, 389, 108, 109, 110, 390, 391, 392, 39, 393, 59, 60, 394, 186, 187, 188, 29, 395, 366, 367, 368, 121, 396, 397, 398, 43, 399, 400, 401, 402, 403, 404, 130, 131, 405, 1065, 1066, 1067, 1068, 1069, 1070, 1071, 1104, 1105, 1106, 1107, 1108, 1109, 1110, 1111, 1112, 1113, 1114, 1115, 1116, 1117, 1118, 1119, 1138, 1139, 1140, 1141, 1142, 1143, 1144, 1145, 1146, 1147, 1120, 1121, 1122, 1123, 1124, 1125, 1126, 1127, 1128, 1129, 1130] (by decide +kernel) (by decide +kernel)
set_option maxRecDepth 20000 in
theorem gL_law_X8_undo : GoodIn wsL_law (wsV RL 136 RX8 yX8_undo wsX8_undo) := goodIn_app (goodIn_of _ (by decide +kernel)) ggL_law_X8_undo
set_option maxRecDepth 20000 in
theorem ggL_law_X9_undo : GoodIn wsL_law wsX9_undo := goodIn_r _ [1054, 168, 506, 143, 139, 507, 508, 5, 509, 1072, 1073, 1074, 1075, 1076, 1077, 1078, 1079, 1080, 1081, 1082, 1083, 1084, 1085, 1086, 1087, 1088, 1089] (by decide +kernel) (by decide +kernel)
set_option maxRecDepth 20000 in
theorem gL_law_X9_undo : GoodIn wsL_law (wsV RL 139 RX9 yX9_undo wsX9_undo) := goodIn_app (goodIn_of _ (by decide +kernel)) ggL_law_X9_undo
set_option maxRecDepth 20000 in
theorem ggL_law_X8_checksum : GoodIn wsL_law wsX8_checksum := goodIn_r _ [1058, 1059, 20, 533, 534, 535, 19, 536, 90, 92, 93, 40, 94, 95, 96, 97, 98, 99, 100, 537, 538, 539, 540, 380, 381, 382, 383, 36, 541, 542, 543, 544, 545, 546, 547, 548, 549, 186, 187, 188, 550, 190, 191, 551, 552, 553, 554, 555, 556, 557, 558, 91, 559, 315, 54, 316, 560, 561, 562, 563, 564, 311, 312, 313, 78, 314, 565, 566, 567, 568, 569, 570, 571, 289, 572, 354, 353, 573, 574, 575, 576, 577, 578, 579, 580, 581, 582, 583, 584, 585, 586, 652, 653, 654, 655, 656, 657, 658, 659, 660, 661, 662, 663, 76, 77, 664, 665, 666, 667, 668, 669, 670, 671, 715, 716, 717, 718, 48, 719, 720, 721, 39, 722, 60, 59, 723, 724, 725, 47, 726, 727, 728, 729, 730, 731, 732, 733, 734, 735, 755, 756, 757, 43, 758, 400, 401, 402, 403, 404, 130, 767, 768, 769, 770, 131, 405, 1065, 1066, 1067, 1068, 1069, 1070, 1071, 1104, 1105, 1106, 1107, 1108, 1109, 1110, 1111, 1112, 1113, 1114, 1115, 1116, 1117, 1118, 1119, 1148, 1149, 1150, 1151, 1152, 1153, 1154, 1155, 1120, 1121, 1122, 1138, 1139, 1140, 1141, 1142, 1143, 1144, 1145, 1146, 1147, 1156, 1157, 1131, 1132, 1133, 1134, 1135, 1136, 1137, 1123, 1124, 1125, 1126, 1127, 1128, 1129, 1130] (by decide +kernel) (by decide +kernel)
set_option maxRecDepth 20000 in
theorem gL_law_X8_checksum : GoodIn wsL_law (wsV RL 140 RX8 yX8_checksum wsX8_checksum) := goodIn_app (goodIn_of _ (by decide +kernel)) ggL_law_X8_checksum
set_option maxRecDepth 20000 in
theorem ggL_law_X9_checksum : GoodIn wsL_law wsX9_checksum := goodIn_r _ [1063, 168, 1064, 139, 591, 592, 593, 5, 594, 595, 596, 597, 598, 599, 600, 601, 602, 603, 604, 605, 606, 148, 149, 150, 607, 608, 609, 610, 611, 612, 613, 614, 144, 615, 616, 617, 618, 619, 620, 621, 622, 623, 624, 625, 626, 627, 628, 629, 630, 631, 632, 633, 634, 635, 636, 637, 456, 457, 458, 680, 681, 682, 683, 684, 685, 686, 687, 688, 689, 690, 691, 744, 745, 746, 747, 775, 776, 777, 778, 1072, 1073, 1074, 1075, 1076, 1077, 1078, 1079, 1080, 1081, 1082, 1083, 1084, 1085, 1086, 1087, 1088, 1089] (by decide +kernel) (by decide +kernel)
set_option maxRecDepth 20000 in
theorem gL_law_X9_checksum : GoodIn wsL_law (wsV RL 144 RX9 yX9_checksum wsX9_checksum) := goodIn_app (goodIn_of _ (by decide +kernel)) ggL_law_X9_checksum
