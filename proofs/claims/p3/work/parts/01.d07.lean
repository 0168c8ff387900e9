set_option maxRecDepth 20000 in
theorem gX9_handle_X9_isOpen : GoodIn wsX9_handle (wsV RX9 231 RX9 yX9_isOpen wsX9_isOpen) := goodIn_app (goodIn_of _ (by decide +kernel)) ggX9_handle_X9_isOpen
set_option maxRecDepth 20000 in
theorem ggX9_handle_X9_vote : GoodIn wsX9_handle wsX9_vote := goodIn_r _ [40, 1, 29, 30, 31, 5, 32, 7, 8, 9, 10, 11, 12, 13, 25, 26, 27, 28, 41, 42, 43, 44, 18, 19, 20, 21, 22, 23, 24, 49, 50, 51, 52, 53, 54, 55, 56, 57, 58, 59, 60, 61, 62, 63, 64, 65, 66] (by decide +kernel) (by decide +kernel)
set_option maxRecDepth 20000 in
theorem gX9_handle_X9_vote : GoodIn wsX9_handle (wsV RX9 234 RX9 yX9_vote wsX9_vote) := goodIn_app (goodIn_of _ (by decide +kernel)) ggX9_handle_X9_vote
set_option maxRecDepth 20000 in
theorem ggX9_handle_X9_of : GoodIn wsX9_handle wsX9_of := goodIn_r _ [10, 1, 11, 12, 5, 13, 49, 50, 51, 52, 53, 54, 55, 56, 57, 58, 59, 60, 61, 62, 63, 64, 65, 66] (by decide +kernel) (by decide +kernel)
set_option maxRecDepth 20000 in
theorem gX9_handle_X9_of : GoodIn wsX9_handle (wsV RX9 181 RX9 yX9_of wsX9_of) := goodIn_app (goodIn_of _ (by decide +kernel)) ggX9_handle_X9_of
set_option maxRecDepth 20000 in
theorem ggX9_handle_X9_dropPlan : GoodIn wsX9_handle wsX9_dropPlan := goodIn_r _ [48, 25, 26, 27, 5, 28, 1, 11, 12, 13, 49, 50, 51, 52, 53, 54, 55, 56, 57, 58, 59, 60, 61, 62, 63, 64, 65, 66] (by decide +kernel) (by decide +kernel)
set_option maxRecDepth 20000 in
theorem gX9_handle_X9_dropPlan : GoodIn wsX9_handle (wsV RX9 237 RX9 yX9_dropPlan wsX9_dropPlan) := goodIn_app (goodIn_of _ (by decide +kernel)) ggX9_handle_X9_dropPlan
set_option maxRecDepth 20000 in
theorem ggX9_handleAll_X9_handle : GoodIn wsX9_handleAll wsX9_handle := goodIn_r _ [6, 1, 7, 8, 9, 5, 10, 11, 12, 13, 14, 15, 16, 17, 18, 19, 20, 21, 22, 23, 24, 25, 26, 27, 28, 29, 30, 31, 32, 33, 34, 35, 36, 37, 38, 39, 40, 41, 42, 43, 44, 45, 46, 47, 48, 49, 50, 51, 52, 53, 54, 55, 56, 57, 58, 59, 60, 61, 62, 63, 64, 65, 66, 67, 68, 69, 70] (by decide +kernel) (by decide +kernel)
set_option maxRecDepth 20000 in
theorem gX9_handleAll_X9_handle : GoodIn wsX9_handleAll (wsV RX9 240 RX9 yX9_handle wsX9_handle) := goodIn_app (goodIn_of _ (by decide +kernel)) ggX9_handleAll_X9_handle
set_option maxRecDepth 20000 in
theorem ggX9_giveUp_X9_isUp : GoodIn wsX9_giveUp wsX9_isUp := goodIn_r _ [6, 7, 8, 9, 5, 10, 1, 11, 12, 13, 33, 34, 35, 36, 37, 38, 39, 40, 41, 42, 43, 44, 45, 46, 47, 48, 49, 50] (by decide +kernel) (by decide +kernel)
set_option maxRecDepth 20000 in
theorem gX9_giveUp_X9_isUp : GoodIn wsX9_giveUp (wsV RX9 228 RX9 yX9_isUp wsX9_isUp) := goodIn_app (goodIn_of _ (by decide +kernel)) ggX9_giveUp_X9_isUp
set_option maxRecDepth 20000 in
theorem ggX9_giveUp_X9_of : GoodIn wsX9_giveUp wsX9_of := goodIn_r _ [10, 1, 11, 12, 5, 13, 33, 34, 35, 36, 37, 38, 39, 40, 41, 42, 43, 44, 45, 46, 47, 48, 49, 50] (by decide +kernel) (by decide +kernel)
set_option maxRecDepth 20000 in
theorem gX9_giveUp_X9_of : GoodIn wsX9_giveUp (wsV RX9 181 RX9 yX9_of wsX9_of) := goodIn_app (goodIn_of _ (by decide +kernel)) ggX9_giveUp_X9_of
set_option maxRecDepth 20000 in
theorem ggX9_giveUp_X9_dropPlan : GoodIn wsX9_giveUp wsX9_dropPlan := goodIn_r _ [17, 18, 19, 20, 5, 21, 1, 11, 12, 13, 33, 34, 35, 36, 37, 38, 39, 40, 41, 42, 43, 44, 45, 46, 47, 48, 49, 50] (by decide +kernel) (by decide +kernel)
set_option maxRecDepth 20000 in
theorem gX9_giveUp_X9_dropPlan : GoodIn wsX9_giveUp (wsV RX9 237 RX9 yX9_dropPlan wsX9_dropPlan) := goodIn_app (goodIn_of _ (by decide +kernel)) ggX9_giveUp_X9_dropPlan
set_option maxRecDepth 20000 in
theorem ggX9_giveUp_X9_sendToOthers : GoodIn wsX9_giveUp wsX9_sendToOthers := goodIn_r _ [25, 1, 26, 27, 28, 5, 29, 30, 31, 32, 33, 34, 35, 36, 37, 38, 39, 40, 41, 42, 43, 44, 45, 46, 47, 48, 49, 50] (by decide +kernel) (by decide +kernel)
set_option maxRecDepth 20000 in
theorem gX9_giveUp_X9_sendToOthers : GoodIn wsX9_giveUp (wsV RX9 225 RX9 yX9_sendToOthers wsX9_sendToOthers) := goodIn_app (goodIn_of _ (by decide +kernel)) ggX9_giveUp_X9_sendToOthers
set_option maxRecDepth 20000 in
theorem ggX9_change_X9_estimate : GoodIn wsX9_change wsX9_estimate := goodIn_r _ [6, 7, 8, 9, 5, 10, 1, 11, 12, 13, 14, 15, 16, 17, 26, 27, 28, 29, 30, 31, 32, 33, 34, 35, 36, 37, 38, 39, 40, 41, 42, 43] (by decide +kernel) (by decide +kernel)
set_option maxRecDepth 20000 in
theorem gX9_change_X9_estimate : GoodIn wsX9_change (wsV RX9 244 RX9 yX9_estimate wsX9_estimate) := goodIn_app (goodIn_of _ (by decide +kernel)) ggX9_change_X9_estimate
set_option maxRecDepth 20000 in
theorem ggX9_change_X9_of : GoodIn wsX9_change wsX9_of := goodIn_r _ [14, 1, 15, 16, 5, 17, 26, 27, 28, 29, 30, 31, 32, 33, 34, 35, 36, 37, 38, 39, 40, 41, 42, 43] (by decide +kernel) (by decide +kernel)
set_option maxRecDepth 20000 in
theorem gX9_change_X9_of : GoodIn wsX9_change (wsV RX9 181 RX9 yX9_of wsX9_of) := goodIn_app (goodIn_of _ (by decide +kernel)) ggX9_change_X9_of
set_option maxRecDepth 20000 in
theorem ggX9_change_X9_set : GoodIn wsX9_change wsX9_set := goodIn_r _ [21, 1, 15, 16, 5, 17, 26, 27, 28, 29, 30, 31, 32, 33, 34, 35, 36, 37, 38, 39, 40, 41, 42, 43] (by decide +kernel) (by decide +kernel)
set_option maxRecDepth 20000 in
theorem gX9_change_X9_set : GoodIn wsX9_change (wsV RX9 217 RX9 yX9_set wsX9_set) := goodIn_app (goodIn_of _ (by decide +kernel)) ggX9_change_X9_set
set_option maxRecDepth 20000 in
theorem ggX9_change_X9_dropPlan : GoodIn wsX9_change wsX9_dropPlan := goodIn_r _ [25, 18, 19, 20, 5, 21, 1, 15, 16, 17, 26, 27, 28, 29, 30, 31, 32, 33, 34, 35, 36, 37, 38, 39, 40, 41, 42, 43] (by decide +kernel) (by decide +kernel)
set_option maxRecDepth 20000 in
theorem gX9_change_X9_dropPlan : GoodIn wsX9_change (wsV RX9 237 RX9 yX9_dropPlan wsX9_dropPlan) := goodIn_app (goodIn_of _ (by decide +kernel)) ggX9_change_X9_dropPlan
set_option maxRecDepth 20000 in
theorem ggX9_tick_X9_handleAll : GoodIn wsX9_tick wsX9_handleAll := goodIn_r _ [6, 1, 7, 8, 9, 5, 10, 11, 12, 13, 14, 15, 16, 17, 18, 19, 20, 21, 22, 23, 24, 25, 26, 27, 28, 29, 30, 31, 32, 33, 34, 35, 36, 37, 38, 39, 40, 41, 42, 43, 44, 45, 46, 47, 48, 49, 50, 51, 52, 53, 54, 55, 56, 69, 70, 71, 72, 73, 74, 75, 76, 77, 78, 79, 80, 81, 82, 83, 84, 85, 86] (by decide +kernel) (by decide +kernel)
set_option maxRecDepth 20000 in
theorem gX9_tick_X9_handleAll : GoodIn wsX9_tick (wsV RX9 247 RX9 yX9_handleAll wsX9_handleAll) := goodIn_app (goodIn_of _ (by decide +kernel)) ggX9_tick_X9_handleAll
set_option maxRecDepth 20000 in
theorem ggX9_tick_X9_isOpen : GoodIn wsX9_tick wsX9_isOpen := goodIn_r _ [44, 1, 69, 70, 71, 72, 73, 74, 75, 76, 77, 78, 79, 80, 81, 82, 83, 84, 85, 86] (by decide +kernel) (by decide +kernel)
set_option maxRecDepth 20000 in
theorem gX9_tick_X9_isOpen : GoodIn wsX9_tick (wsV RX9 231 RX9 yX9_isOpen wsX9_isOpen) := goodIn_app (goodIn_of _ (by decide +kernel)) ggX9_tick_X9_isOpen
set_option maxRecDepth 20000 in
theorem ggX9_tick_X9_giveUp : GoodIn wsX9_tick wsX9_giveUp := goodIn_r _ [60, 1, 11, 12, 13, 5, 14, 15, 16, 17, 18, 19, 20, 21, 53, 54, 55, 56, 33, 34, 35, 36, 49, 50, 51, 52, 26, 27, 28, 29, 30, 31, 32, 69, 70, 71, 72, 73, 74, 75, 76, 77, 78, 79, 80, 81, 82, 83, 84, 85, 86] (by decide +kernel) (by decide +kernel)
set_option maxRecDepth 20000 in
theorem gX9_tick_X9_giveUp : GoodIn wsX9_tick (wsV RX9 250 RX9 yX9_giveUp wsX9_giveUp) := goodIn_app (goodIn_of _ (by decide +kernel)) ggX9_tick_X9_giveUp
set_option maxRecDepth 20000 in
theorem ggX9_tick_X9_isUp : GoodIn wsX9_tick wsX9_isUp := goodIn_r _ [14, 15, 16, 17, 5, 18, 1, 19, 20, 21, 69, 70, 71, 72, 73, 74, 75, 76, 77, 78, 79, 80, 81, 82, 83, 84, 85, 86] (by decide +kernel) (by decide +kernel)
set_option maxRecDepth 20000 in
theorem gX9_tick_X9_isUp : GoodIn wsX9_tick (wsV RX9 228 RX9 yX9_isUp wsX9_isUp) := goodIn_app (goodIn_of _ (by decide +kernel)) ggX9_tick_X9_isUp
set_option maxRecDepth 20000 in
theorem ggX9_tick_X9_of : GoodIn wsX9_tick wsX9_of := goodIn_r _ [18, 1, 19, 20, 5, 21, 69, 70, 71, 72, 73, 74, 75, 76, 77, 78, 79, 80, 81, 82, 83, 84, 85, 86] (by decide +kernel) (by decide +kernel)
set_option maxRecDepth 20000 in
theorem gX9_tick_X9_of : GoodIn wsX9_tick (wsV RX9 181 RX9 yX9_of wsX9_of) := goodIn_app (goodIn_of _ (by decide +kernel)) ggX9_tick_X9_of
set_option maxRecDepth 20000 in
theorem ggX9_tick_X9_estimate : GoodIn wsX9_tick wsX9_estimate := goodIn_r _ [64, 22, 23, 24, 5, 25, 1, 15, 16, 17, 18, 19, 20, 21, 69, 70, 71, 72, 73, 74, 75, 76, 77, 78, 79, 80, 81, 82, 83, 84, 85, 86] (by decide +kernel) (by decide +kernel)
set_option maxRecDepth 20000 in
theorem gX9_tick_X9_estimate : GoodIn wsX9_tick (wsV RX9 244 RX9 yX9_estimate wsX9_estimate) := goodIn_app (goodIn_of _ (by decide +kernel)) ggX9_tick_X9_estimate
set_option maxRecDepth 20000 in
theorem ggX9_tick_X9_change : GoodIn wsX9_tick wsX9_change := goodIn_r _ [68, 1, 61, 62, 63, 5, 64, 22, 23, 24, 25, 15, 16, 17, 18, 19, 20, 21, 33, 34, 35, 36, 53, 54, 55, 56, 69, 70, 71, 72, 73, 74, 75, 76, 77, 78, 79, 80, 81, 82, 83, 84, 85, 86] (by decide +kernel) (by decide +kernel)
set_option maxRecDepth 20000 in
theorem gX9_tick_X9_change : GoodIn wsX9_tick (wsV RX9 253 RX9 yX9_change wsX9_change) := goodIn_app (goodIn_of _ (by decide +kernel)) ggX9_tick_X9_change
set_option maxRecDepth 20000 in
theorem ggX9_proposeNow_X9_clock : GoodIn wsX9_proposeNow wsX9_clock := goodIn_r _ [6, 1, 7, 8, 9, 5, 10, 11, 12, 13, 37, 38, 39, 40, 41, 42, 43, 44, 45, 46, 47, 48, 49, 50, 51, 52, 53, 54] (by decide +kernel) (by decide +kernel)
set_option maxRecDepth 20000 in
theorem gX9_proposeNow_X9_clock : GoodIn wsX9_proposeNow (wsV RX9 184 RX9 yX9_clock wsX9_clock) := goodIn_app (goodIn_of _ (by decide +kernel)) ggX9_proposeNow_X9_clock
set_option maxRecDepth 20000 in
theorem ggX9_proposeNow_X9_plan : GoodIn wsX9_proposeNow wsX9_plan := goodIn_r _ [17, 7, 8, 9, 5, 10, 1, 11, 12, 13, 18, 19, 20, 21, 37, 38, 39, 40, 41, 42, 43, 44, 45, 46, 47, 48, 49, 50, 51, 52, 53, 54] (by decide +kernel) (by decide +kernel)
set_option maxRecDepth 20000 in
theorem gX9_proposeNow_X9_plan : GoodIn wsX9_proposeNow (wsV RX9 221 RX9 yX9_plan wsX9_plan) := goodIn_app (goodIn_of _ (by decide +kernel)) ggX9_proposeNow_X9_plan
set_option maxRecDepth 20000 in
theorem ggX9_proposeNow_X9_sendToOthers : GoodIn wsX9_proposeNow wsX9_sendToOthers := goodIn_r _ [25, 1, 26, 27, 28, 5, 29, 30, 31, 32, 37, 38, 39, 40, 41, 42, 43, 44, 45, 46, 47, 48, 49, 50, 51, 52, 53, 54] (by decide +kernel) (by decide +kernel)
set_option maxRecDepth 20000 in
theorem gX9_proposeNow_X9_sendToOthers : GoodIn wsX9_proposeNow (wsV RX9 225 RX9 yX9_sendToOthers wsX9_sendToOthers) := goodIn_app (goodIn_of _ (by decide +kernel)) ggX9_proposeNow_X9_sendToOthers
set_option maxRecDepth 20000 in
theorem ggX9_proposeNow_X9_vote : GoodIn wsX9_proposeNow wsX9_vote := goodIn_r _ [36, 1, 14, 15, 16, 5, 17, 7, 8, 9, 10, 11, 12, 13, 18, 19, 20, 21, 22, 23, 24, 25, 26, 27, 28, 29, 30, 31, 32, 37, 38, 39, 40, 41, 42, 43, 44, 45, 46, 47, 48, 49, 50, 51, 52, 53, 54] (by decide +kernel) (by decide +kernel)
set_option maxRecDepth 20000 in
theorem gX9_proposeNow_X9_vote : GoodIn wsX9_proposeNow (wsV RX9 234 RX9 yX9_vote wsX9_vote) := goodIn_app (goodIn_of _ (by decide +kernel)) ggX9_proposeNow_X9_vote
set_option maxRecDepth 20000 in
theorem ggX9_isLive_X9_isOpen : GoodIn wsX9_isLive wsX9_isOpen := goodIn_r _ [6, 1, 18, 19, 20, 21, 22, 23, 24, 25, 26, 27, 28, 29, 30, 31, 32, 33, 34, 35] (by decide +kernel) (by decide +kernel)
set_option maxRecDepth 20000 in
theorem gX9_isLive_X9_isOpen : GoodIn wsX9_isLive (wsV RX9 231 RX9 yX9_isOpen wsX9_isOpen) := goodIn_app (goodIn_of _ (by decide +kernel)) ggX9_isLive_X9_isOpen
set_option maxRecDepth 20000 in
theorem ggX9_isLive_X9_isUp : GoodIn wsX9_isLive wsX9_isUp := goodIn_r _ [10, 11, 12, 13, 5, 14, 1, 15, 16, 17, 18, 19, 20, 21, 22, 23, 24, 25, 26, 27, 28, 29, 30, 31, 32, 33, 34, 35] (by decide +kernel) (by decide +kernel)
set_option maxRecDepth 20000 in
theorem gX9_isLive_X9_isUp : GoodIn wsX9_isLive (wsV RX9 228 RX9 yX9_isUp wsX9_isUp) := goodIn_app (goodIn_of _ (by decide +kernel)) ggX9_isLive_X9_isUp
set_option maxRecDepth 20000 in
theorem ggX9_isLive_X9_of : GoodIn wsX9_isLive wsX9_of := goodIn_r _ [14, 1, 15, 16, 5, 17, 18, 19, 20, 21, 22, 23, 24, 25, 26, 27, 28, 29, 30, 31, 32, 33, 34, 35] (by decide +kernel) (by decide +kernel)
set_option maxRecDepth 20000 in
theorem gX9_isLive_X9_of : GoodIn wsX9_isLive (wsV RX9 181 RX9 yX9_of wsX9_of) := goodIn_app (goodIn_of _ (by decide +kernel)) ggX9_isLive_X9_of
set_option maxRecDepth 20000 in
theorem ggX9_goOn_X9_isLive : GoodIn wsX9_goOn wsX9_isLive := goodIn_r _ [5, 6, 7, 8, 9, 4, 10, 11, 12, 13, 14, 15, 16, 17, 18, 19, 20, 21, 77, 78, 79, 80, 81, 82, 83, 84, 85, 86, 87, 88, 89, 90, 91, 92, 93, 94] (by decide +kernel) (by decide +kernel)
set_option maxRecDepth 20000 in
theorem gX9_goOn_X9_isLive : GoodIn wsX9_goOn (wsV RX9 256 RX9 yX9_isLive wsX9_isLive) := goodIn_app (goodIn_of _ (by decide +kernel)) ggX9_goOn_X9_isLive
set_option maxRecDepth 20000 in
theorem ggX9_goOn_X9_tick : GoodIn wsX9_goOn wsX9_tick := goodIn_r _ [25, 6, 26, 27, 28, 4, 29, 30, 31, 32, 33, 11, 12, 13, 14, 15, 16, 17, 18, 19, 20, 21, 34, 35, 36, 37, 38, 39, 40, 41, 42, 43, 44, 45, 46, 47, 48, 49, 50, 51, 52, 7, 8, 9, 10, 53, 54, 55, 56, 57, 58, 59, 60, 61, 62, 63, 64, 65, 66, 67, 68, 69, 70, 71, 72, 73, 74, 75, 76, 77, 78, 79, 80, 81, 82, 83, 84, 85, 86, 87, 88, 89, 90, 91, 92, 93, 94] (by decide +kernel) (by decide +kernel)
set_option maxRecDepth 20000 in
theorem gX9_goOn_X9_tick : GoodIn wsX9_goOn (wsV RX9 259 RX9 yX9_tick wsX9_tick) := goodIn_app (goodIn_of _ (by decide +kernel)) ggX9_goOn_X9_tick
set_option maxRecDepth 20000 in
theorem ggX9_noPlayer_X9_in : GoodIn wsX9_noPlayer wsX9_in := goodIn_r _ [5] (by decide +kernel) (by decide +kernel)
set_option maxRecDepth 20000 in
theorem gX9_noPlayer_X9_in : GoodIn wsX9_noPlayer (va_wsS RX9 65 yX9_in wsX9_in) := goodIn_app (goodIn_of _ (by decide +kernel)) ggX9_noPlayer_X9_in
set_option maxRecDepth 20000 in
theorem ggX9_noPlayer_X9_fails : GoodIn wsX9_noPlayer wsX9_fails := goodIn_r _ [9, 10, 11, 12, 13, 14, 15, 16, 17, 18, 19, 20, 21, 22, 23, 24, 25, 26, 27, 28] (by decide +kernel) (by decide +kernel)
set_option maxRecDepth 20000 in
theorem gX9_noPlayer_X9_fails : GoodIn wsX9_noPlayer (wsV RX9 167 RX9 yX9_fails wsX9_fails) := goodIn_app (goodIn_of _ (by decide +kernel)) ggX9_noPlayer_X9_fails
set_option maxRecDepth 20000 in
theorem ggX9_songs_X9_isUp : GoodIn wsX9_songs wsX9_isUp := goodIn_r _ [6, 7, 8, 9, 5, 10, 1, 11, 12, 13, 14, 15, 16, 17, 18, 19, 20, 21, 22, 23, 24, 25, 26, 27, 28, 29, 30, 31] (by decide +kernel) (by decide +kernel)
set_option maxRecDepth 20000 in
theorem gX9_songs_X9_isUp : GoodIn wsX9_songs (wsV RX9 228 RX9 yX9_isUp wsX9_isUp) := goodIn_app (goodIn_of _ (by decide +kernel)) ggX9_songs_X9_isUp
set_option maxRecDepth 20000 in
theorem ggX9_songs_X9_of : GoodIn wsX9_songs wsX9_of := goodIn_r _ [10, 1, 11, 12, 5, 13, 14, 15, 16, 17, 18, 19, 20, 21, 22, 23, 24, 25, 26, 27, 28, 29, 30, 31] (by decide +kernel) (by decide +kernel)
set_option maxRecDepth 20000 in
theorem gX9_songs_X9_of : GoodIn wsX9_songs (wsV RX9 181 RX9 yX9_of wsX9_of) := goodIn_app (goodIn_of _ (by decide +kernel)) ggX9_songs_X9_of
set_option maxRecDepth 20000 in
theorem ggX9_told_X9_songs : GoodIn wsX9_told wsX9_songs := goodIn_r _ [6, 1, 7, 8, 9, 5, 10, 11, 12, 13, 14, 15, 16, 17, 53, 54, 55, 56, 57, 58, 59, 60, 61, 62, 63, 64, 65, 66, 67, 68, 69, 70] (by decide +kernel) (by decide +kernel)
set_option maxRecDepth 20000 in
theorem gX9_told_X9_songs : GoodIn wsX9_told (wsV RX9 262 RX9 yX9_songs wsX9_songs) := goodIn_app (goodIn_of _ (by decide +kernel)) ggX9_told_X9_songs
set_option maxRecDepth 20000 in
theorem ggX9_told_X9_margin : GoodIn wsX9_told wsX9_margin := goodIn_r _ [21, 1, 22, 23, 24, 5, 25, 26, 27, 28, 29, 30, 31, 32, 33, 34, 35, 36, 37, 38, 39, 40, 41, 11, 12, 13, 14, 15, 16, 17, 42, 43, 44, 45, 46, 47, 48, 49, 50, 51, 52, 53, 54, 55, 56, 57, 58, 59, 60, 61, 62, 63, 64, 65, 66, 67, 68, 69, 70] (by decide +kernel) (by decide +kernel)
set_option maxRecDepth 20000 in
theorem gX9_told_X9_margin : GoodIn wsX9_told (wsV RX9 265 RX9 yX9_margin wsX9_margin) := goodIn_app (goodIn_of _ (by decide +kernel)) ggX9_told_X9_margin
set_option maxRecDepth 20000 in
theorem ggX9_state_X9_in : GoodIn wsX9_state wsX9_in := goodIn_r _ [5] (by decide +kernel) (by decide +kernel)
set_option maxRecDepth 20000 in
theorem gX9_state_X9_in : GoodIn wsX9_state (va_wsS RX9 65 yX9_in wsX9_in) := goodIn_app (goodIn_of _ (by decide +kernel)) ggX9_state_X9_in
set_option maxRecDepth 20000 in
theorem ggX9_state_X9_fails : GoodIn wsX9_state wsX9_fails := goodIn_r _ [9, 1, 65, 66, 67, 68, 69, 70, 71, 72, 73, 74, 75, 76, 77, 78, 79, 80, 81, 82] (by decide +kernel) (by decide +kernel)
set_option maxRecDepth 20000 in
theorem gX9_state_X9_fails : GoodIn wsX9_state (wsV RX9 167 RX9 yX9_fails wsX9_fails) := goodIn_app (goodIn_of _ (by decide +kernel)) ggX9_state_X9_fails
set_option maxRecDepth 20000 in
theorem ggX9_state_X9_told : GoodIn wsX9_state wsX9_told := goodIn_r _ [13, 14, 15, 16, 17, 4, 18, 19, 20, 21, 22, 23, 24, 25, 26, 27, 28, 29, 30, 31, 32, 33, 34, 35, 36, 37, 38, 39, 40, 41, 42, 43, 44, 45, 46, 47, 48, 49, 50, 51, 52, 53, 54, 55, 56, 57, 58, 59, 60, 61, 62, 63, 64, 65, 66, 67, 68, 69, 70, 71, 72, 73, 74, 75, 76, 77, 78, 79, 80, 81, 82] (by decide +kernel) (by decide +kernel)
set_option maxRecDepth 20000 in
theorem gX9_state_X9_told : GoodIn wsX9_state (wsV RX9 267 RX9 yX9_told wsX9_told) := goodIn_app (goodIn_of _ (by decide +kernel)) ggX9_state_X9_told
set_option maxRecDepth 20000 in
theorem ggX9_toldPlayer_X9_of : GoodIn wsX9_toldPlayer wsX9_of := goodIn_r _ [6, 1, 7, 8, 5, 9, 18, 19, 20, 21, 22, 23, 24, 25, 26, 27, 28, 29, 30, 31, 32, 33, 34, 35] (by decide +kernel) (by decide +kernel)
set_option maxRecDepth 20000 in
theorem gX9_toldPlayer_X9_of : GoodIn wsX9_toldPlayer (wsV RX9 181 RX9 yX9_of wsX9_of) := goodIn_app (goodIn_of _ (by decide +kernel)) ggX9_toldPlayer_X9_of
set_option maxRecDepth 20000 in
theorem ggX9_toldPlayer_X9_clock : GoodIn wsX9_toldPlayer wsX9_clock := goodIn_r _ [13, 1, 2, 3, 4, 5, 6, 7, 8, 9, 18, 19, 20, 21, 22, 23, 24, 25, 26, 27, 28, 29, 30, 31, 32, 33, 34, 35] (by decide +kernel) (by decide +kernel)
set_option maxRecDepth 20000 in
theorem gX9_toldPlayer_X9_clock : GoodIn wsX9_toldPlayer (wsV RX9 184 RX9 yX9_clock wsX9_clock) := goodIn_app (goodIn_of _ (by decide +kernel)) ggX9_toldPlayer_X9_clock
set_option maxRecDepth 20000 in
theorem ggX9_toldPlayer_X9_estimate : GoodIn wsX9_toldPlayer wsX9_estimate := goodIn_r _ [17, 10, 11, 12, 5, 13, 1, 2, 3, 4, 6, 7, 8, 9, 18, 19, 20, 21, 22, 23, 24, 25, 26, 27, 28, 29, 30, 31, 32, 33, 34, 35] (by decide +kernel) (by decide +kernel)
set_option maxRecDepth 20000 in
theorem gX9_toldPlayer_X9_estimate : GoodIn wsX9_toldPlayer (wsV RX9 244 RX9 yX9_estimate wsX9_estimate) := goodIn_app (goodIn_of _ (by decide +kernel)) ggX9_toldPlayer_X9_estimate
set_option maxRecDepth 20000 in
theorem ggX9_player_X9_noPlayer : GoodIn wsX9_player wsX9_noPlayer := goodIn_r _ [6, 7, 8, 9, 5, 10, 11, 12, 13, 14, 1, 34, 35, 36, 37, 38, 39, 40, 41, 42, 43, 44, 45, 46, 47, 48, 49, 50, 51] (by decide +kernel) (by decide +kernel)
set_option maxRecDepth 20000 in
theorem gX9_player_X9_noPlayer : GoodIn wsX9_player (wsV RX9 270 RX9 yX9_noPlayer wsX9_noPlayer) := goodIn_app (goodIn_of _ (by decide +kernel)) ggX9_player_X9_noPlayer
set_option maxRecDepth 20000 in
theorem ggX9_player_X9_in : GoodIn wsX9_player wsX9_in := goodIn_r _ [10] (by decide +kernel) (by decide +kernel)
set_option maxRecDepth 20000 in
theorem gX9_player_X9_in : GoodIn wsX9_player (va_wsS RX9 65 yX9_in wsX9_in) := goodIn_app (goodIn_of _ (by decide +kernel)) ggX9_player_X9_in
set_option maxRecDepth 20000 in
theorem ggX9_player_X9_fails : GoodIn wsX9_player wsX9_fails := goodIn_r _ [14, 1, 34, 35, 36, 37, 38, 39, 40, 41, 42, 43, 44, 45, 46, 47, 48, 49, 50, 51] (by decide +kernel) (by decide +kernel)
set_option maxRecDepth 20000 in
theorem gX9_player_X9_fails : GoodIn wsX9_player (wsV RX9 167 RX9 yX9_fails wsX9_fails) := goodIn_app (goodIn_of _ (by decide +kernel)) ggX9_player_X9_fails
set_option maxRecDepth 20000 in
theorem ggX9_player_X9_toldPlayer : GoodIn wsX9_player wsX9_toldPlayer := goodIn_r _ [18, 7, 19, 20, 21, 5, 22, 23, 24, 25, 26, 27, 28, 29, 30, 31, 32, 33, 34, 35, 36, 37, 38, 39, 40, 41, 42, 43, 44, 45, 46, 47, 48, 49, 50, 51] (by decide +kernel) (by decide +kernel)
set_option maxRecDepth 20000 in
theorem gX9_player_X9_toldPlayer : GoodIn wsX9_player (wsV RX9 273 RX9 yX9_toldPlayer wsX9_toldPlayer) := goodIn_app (goodIn_of _ (by decide +kernel)) ggX9_player_X9_toldPlayer
set_option maxRecDepth 20000 in
theorem ggX9_link_X9_noPlayer : GoodIn wsX9_link wsX9_noPlayer := goodIn_r _ [7, 2, 8, 9, 6, 10, 11, 12, 13, 14, 1, 18, 19, 20, 21, 22, 23, 24, 25, 26, 27, 28, 29, 30, 31, 32, 33, 34, 35] (by decide +kernel) (by decide +kernel)
set_option maxRecDepth 20000 in
theorem gX9_link_X9_noPlayer : GoodIn wsX9_link (wsV RX9 270 RX9 yX9_noPlayer wsX9_noPlayer) := goodIn_app (goodIn_of _ (by decide +kernel)) ggX9_link_X9_noPlayer
set_option maxRecDepth 20000 in
theorem ggX9_link_X9_linkAt : GoodIn wsX9_link wsX9_linkAt := goodIn_r _ [17] (by decide +kernel) (by decide +kernel)
set_option maxRecDepth 20000 in
theorem gX9_link_X9_linkAt : GoodIn wsX9_link (va_wsS RX9 145 yX9_linkAt wsX9_linkAt) := goodIn_app (goodIn_of _ (by decide +kernel)) ggX9_link_X9_linkAt
set_option maxRecDepth 20000 in
theorem ggX9_message_X9_in : GoodIn wsX9_message wsX9_in := goodIn_r _ [6] (by decide +kernel) (by decide +kernel)
set_option maxRecDepth 20000 in
theorem gX9_message_X9_in : GoodIn wsX9_message (va_wsS RX9 65 yX9_in wsX9_in) := goodIn_app (goodIn_of _ (by decide +kernel)) ggX9_message_X9_in
set_option maxRecDepth 20000 in
theorem ggX9_message_X9_fails : GoodIn wsX9_message wsX9_fails := goodIn_r _ [10, 1, 19, 20, 21, 22, 23, 24, 25, 26, 27, 28, 29, 30, 31, 32, 33, 34, 35, 36] (by decide +kernel) (by decide +kernel)
set_option maxRecDepth 20000 in
theorem gX9_message_X9_fails : GoodIn wsX9_message (wsV RX9 167 RX9 yX9_fails wsX9_fails) := goodIn_app (goodIn_of _ (by decide +kernel)) ggX9_message_X9_fails
set_option maxRecDepth 20000 in
theorem ggX9_message_X9_messageAt : GoodIn wsX9_message wsX9_messageAt := goodIn_r _ [14, 2, 19, 20, 21, 22, 23, 24, 25, 26, 27, 28, 29, 30, 31, 32, 33, 34, 35, 36] (by decide +kernel) (by decide +kernel)
set_option maxRecDepth 20000 in
theorem gX9_message_X9_messageAt : GoodIn wsX9_message (wsV RX9 276 RX9 yX9_messageAt wsX9_messageAt) := goodIn_app (goodIn_of _ (by decide +kernel)) ggX9_message_X9_messageAt
set_option maxRecDepth 20000 in
theorem ggX9_message_X9_toldMessage : GoodIn wsX9_message wsX9_toldMessage := goodIn_r _ [18, 2, 19, 20, 21, 22, 23, 24, 25, 26, 27, 28, 29, 30, 31, 32, 33, 34, 35, 36] (by decide +kernel) (by decide +kernel)
set_option maxRecDepth 20000 in
theorem gX9_message_X9_toldMessage : GoodIn wsX9_message (wsV RX9 279 RX9 yX9_toldMessage wsX9_toldMessage) := goodIn_app (goodIn_of _ (by decide +kernel)) ggX9_message_X9_toldMessage
set_option maxRecDepth 20000 in
theorem ggX9_proposal_X9_fails : GoodIn wsX9_proposal wsX9_fails := goodIn_r _ [7, 1, 11, 12, 13, 14, 15, 16, 17, 18, 19, 20, 21, 22, 23, 24, 25, 26, 27, 28] (by decide +kernel) (by decide +kernel)
set_option maxRecDepth 20000 in
theorem gX9_proposal_X9_fails : GoodIn wsX9_proposal (wsV RX9 167 RX9 yX9_fails wsX9_fails) := goodIn_app (goodIn_of _ (by decide +kernel)) ggX9_proposal_X9_fails
set_option maxRecDepth 20000 in
theorem ggX9_proposal_X9_in : GoodIn wsX9_proposal wsX9_in := goodIn_r _ [10] (by decide +kernel) (by decide +kernel)
set_option maxRecDepth 20000 in
theorem gX9_proposal_X9_in : GoodIn wsX9_proposal (va_wsS RX9 65 yX9_in wsX9_in) := goodIn_app (goodIn_of _ (by decide +kernel)) ggX9_proposal_X9_in
set_option maxRecDepth 20000 in
theorem ggX9_spread_X9_spreadNow : GoodIn wsX9_spread wsX9_spreadNow := goodIn_r _ [6, 7, 8, 9, 10, 11, 12, 13, 14, 15, 16, 17, 18, 19, 20, 21, 22, 23, 24, 25] (by decide +kernel) (by decide +kernel)
set_option maxRecDepth 20000 in
theorem gX9_spread_X9_spreadNow : GoodIn wsX9_spread (wsV RX9 282 RX9 yX9_spreadNow wsX9_spreadNow) := goodIn_app (goodIn_of _ (by decide +kernel)) ggX9_spread_X9_spreadNow
set_option maxRecDepth 20000 in
theorem ggX9_foretold_X9_in : GoodIn wsX9_foretold wsX9_in := goodIn_r _ [7] (by decide +kernel) (by decide +kernel)
set_option maxRecDepth 20000 in
theorem gX9_foretold_X9_in : GoodIn wsX9_foretold (va_wsS RX9 65 yX9_in wsX9_in) := goodIn_app (goodIn_of _ (by decide +kernel)) ggX9_foretold_X9_in
set_option maxRecDepth 20000 in
theorem ggX9_foretold_X9_fails : GoodIn wsX9_foretold wsX9_fails := goodIn_r _ [11, 1, 101, 102, 103, 104, 105, 106, 107, 108, 109, 110, 111, 112, 113, 114, 115, 116, 117, 118] (by decide +kernel) (by decide +kernel)
set_option maxRecDepth 20000 in
theorem gX9_foretold_X9_fails : GoodIn wsX9_foretold (wsV RX9 167 RX9 yX9_fails wsX9_fails) := goodIn_app (goodIn_of _ (by decide +kernel)) ggX9_foretold_X9_fails
