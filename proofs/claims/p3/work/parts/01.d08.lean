set_option maxRecDepth 20000 in
theorem ggX9_foretold_X9_copy : GoodIn wsX9_foretold wsX9_copy := goodIn_r _ [14] (by decide +kernel) (by decide +kernel)
set_option maxRecDepth 20000 in
theorem gX9_foretold_X9_copy : GoodIn wsX9_foretold (va_wsS RX9 177 yX9_copy wsX9_copy) := goodIn_app (goodIn_of _ (by decide +kernel)) ggX9_foretold_X9_copy
set_option maxRecDepth 20000 in
theorem ggX9_foretold_X9_goOn : GoodIn wsX9_foretold wsX9_goOn := goodIn_r _ [18, 19, 20, 21, 6, 22, 2, 23, 24, 25, 26, 27, 28, 29, 30, 31, 32, 33, 34, 35, 36, 37, 38, 39, 40, 41, 42, 43, 44, 45, 46, 47, 48, 49, 50, 51, 52, 53, 54, 55, 56, 57, 58, 59, 60, 61, 62, 63, 64, 65, 66, 67, 68, 69, 70, 71, 72, 73, 74, 75, 76, 77, 78, 79, 80, 81, 82, 83, 84, 85, 86, 87, 88, 89, 90, 91, 92, 101, 102, 103, 104, 105, 106, 107, 108, 109, 110, 111, 112, 113, 114, 115, 116, 117, 118] (by decide +kernel) (by decide +kernel)
set_option maxRecDepth 20000 in
theorem gX9_foretold_X9_goOn : GoodIn wsX9_foretold (wsV RX9 285 RX9 yX9_goOn wsX9_goOn) := goodIn_app (goodIn_of _ (by decide +kernel)) ggX9_foretold_X9_goOn
set_option maxRecDepth 20000 in
theorem ggX9_foretold_X9_spreadNow : GoodIn wsX9_foretold wsX9_spreadNow := goodIn_r _ [96, 2, 101, 102, 103, 104, 105, 106, 107, 108, 109, 110, 111, 112, 113, 114, 115, 116, 117, 118] (by decide +kernel) (by decide +kernel)
set_option maxRecDepth 20000 in
theorem gX9_foretold_X9_spreadNow : GoodIn wsX9_foretold (wsV RX9 282 RX9 yX9_spreadNow wsX9_spreadNow) := goodIn_app (goodIn_of _ (by decide +kernel)) ggX9_foretold_X9_spreadNow
set_option maxRecDepth 20000 in
theorem ggX9_foretold_X9_songs : GoodIn wsX9_foretold wsX9_songs := goodIn_r _ [100, 2, 27, 28, 29, 6, 30, 31, 32, 33, 34, 35, 36, 37, 101, 102, 103, 104, 105, 106, 107, 108, 109, 110, 111, 112, 113, 114, 115, 116, 117, 118] (by decide +kernel) (by decide +kernel)
set_option maxRecDepth 20000 in
theorem gX9_foretold_X9_songs : GoodIn wsX9_foretold (wsV RX9 262 RX9 yX9_songs wsX9_songs) := goodIn_app (goodIn_of _ (by decide +kernel)) ggX9_foretold_X9_songs
set_option maxRecDepth 20000 in
theorem ggX9_isSafe_X9_proposeNow : GoodIn wsX9_isSafe wsX9_proposeNow := goodIn_r _ [6, 1, 7, 8, 9, 5, 10, 11, 12, 13, 14, 15, 16, 17, 18, 19, 20, 21, 22, 23, 24, 25, 26, 27, 28, 29, 30, 31, 32, 33, 34, 35, 36, 37, 38, 39, 40, 85, 86, 87, 88, 89, 90, 91, 92, 93, 94, 95, 96, 97, 98, 99, 100, 101, 102] (by decide +kernel) (by decide +kernel)
set_option maxRecDepth 20000 in
theorem gX9_isSafe_X9_proposeNow : GoodIn wsX9_isSafe (wsV RX9 288 RX9 yX9_proposeNow wsX9_proposeNow) := goodIn_app (goodIn_of _ (by decide +kernel)) ggX9_isSafe_X9_proposeNow
set_option maxRecDepth 20000 in
theorem ggX9_isSafe_X9_goOn : GoodIn wsX9_isSafe wsX9_goOn := goodIn_r _ [44, 45, 46, 47, 5, 48, 1, 49, 50, 51, 52, 53, 54, 55, 56, 11, 12, 13, 14, 15, 16, 17, 57, 58, 59, 60, 61, 62, 63, 64, 65, 66, 67, 68, 7, 8, 9, 10, 30, 31, 32, 33, 34, 35, 36, 22, 23, 24, 25, 18, 19, 20, 21, 37, 38, 39, 40, 26, 27, 28, 29, 69, 70, 71, 72, 73, 74, 75, 76, 77, 78, 79, 80, 81, 82, 83, 84, 85, 86, 87, 88, 89, 90, 91, 92, 93, 94, 95, 96, 97, 98, 99, 100, 101, 102] (by decide +kernel) (by decide +kernel)
set_option maxRecDepth 20000 in
theorem gX9_isSafe_X9_goOn : GoodIn wsX9_isSafe (wsV RX9 285 RX9 yX9_goOn wsX9_goOn) := goodIn_app (goodIn_of _ (by decide +kernel)) ggX9_isSafe_X9_goOn
set_option maxRecDepth 20000 in
theorem ggX9_mayPropose_X9_isUp : GoodIn wsX9_mayPropose wsX9_isUp := goodIn_r _ [6, 7, 8, 9, 5, 10, 1, 11, 12, 13, 18, 19, 20, 21, 22, 23, 24, 25, 26, 27, 28, 29, 30, 31, 32, 33, 34, 35] (by decide +kernel) (by decide +kernel)
set_option maxRecDepth 20000 in
theorem gX9_mayPropose_X9_isUp : GoodIn wsX9_mayPropose (wsV RX9 228 RX9 yX9_isUp wsX9_isUp) := goodIn_app (goodIn_of _ (by decide +kernel)) ggX9_mayPropose_X9_isUp
set_option maxRecDepth 20000 in
theorem ggX9_mayPropose_X9_isOpen : GoodIn wsX9_mayPropose wsX9_isOpen := goodIn_r _ [17, 1, 18, 19, 20, 21, 22, 23, 24, 25, 26, 27, 28, 29, 30, 31, 32, 33, 34, 35] (by decide +kernel) (by decide +kernel)
set_option maxRecDepth 20000 in
theorem gX9_mayPropose_X9_isOpen : GoodIn wsX9_mayPropose (wsV RX9 231 RX9 yX9_isOpen wsX9_isOpen) := goodIn_app (goodIn_of _ (by decide +kernel)) ggX9_mayPropose_X9_isOpen
set_option maxRecDepth 20000 in
theorem ggX9_safest_X9_mayPropose : GoodIn wsX9_safest wsX9_mayPropose := goodIn_r _ [8, 2, 9, 10, 11, 7, 12, 13, 14, 15, 16, 17, 18, 19, 20, 21, 22, 23, 98, 99, 100, 101, 102, 103, 104, 105, 106, 107, 108, 109, 110, 111, 112, 113, 114, 115] (by decide +kernel) (by decide +kernel)
set_option maxRecDepth 20000 in
theorem gX9_safest_X9_mayPropose : GoodIn wsX9_safest (wsV RX9 291 RX9 yX9_mayPropose wsX9_mayPropose) := goodIn_app (goodIn_of _ (by decide +kernel)) ggX9_safest_X9_mayPropose
set_option maxRecDepth 20000 in
theorem ggX9_safest_X9_copy : GoodIn wsX9_safest wsX9_copy := goodIn_r _ [26] (by decide +kernel) (by decide +kernel)
set_option maxRecDepth 20000 in
theorem gX9_safest_X9_copy : GoodIn wsX9_safest (va_wsS RX9 177 yX9_copy wsX9_copy) := goodIn_app (goodIn_of _ (by decide +kernel)) ggX9_safest_X9_copy
set_option maxRecDepth 20000 in
theorem ggX9_safest_X9_isSafe : GoodIn wsX9_safest wsX9_isSafe := goodIn_r _ [30, 2, 31, 32, 33, 7, 34, 35, 36, 37, 38, 13, 14, 15, 16, 17, 18, 19, 39, 40, 41, 42, 43, 44, 45, 46, 47, 48, 49, 50, 51, 52, 53, 54, 55, 56, 57, 58, 59, 60, 61, 62, 63, 64, 65, 66, 67, 68, 69, 20, 21, 22, 23, 9, 10, 11, 12, 70, 71, 72, 73, 74, 75, 76, 77, 78, 79, 80, 81, 82, 83, 84, 85, 86, 87, 88, 89, 90, 91, 92, 93, 94, 95, 96, 97, 98, 99, 100, 101, 102, 103, 104, 105, 106, 107, 108, 109, 110, 111, 112, 113, 114, 115] (by decide +kernel) (by decide +kernel)
set_option maxRecDepth 20000 in
theorem gX9_safest_X9_isSafe : GoodIn wsX9_safest (wsV RX9 294 RX9 yX9_isSafe wsX9_isSafe) := goodIn_app (goodIn_of _ (by decide +kernel)) ggX9_safest_X9_isSafe
set_option maxRecDepth 20000 in
theorem ggX9_meanError_X9_playersUp : GoodIn wsX9_meanError wsX9_playersUp := goodIn_r _ [11, 2, 12, 13, 14, 10, 15, 16, 17, 18, 35, 36, 37, 38, 39, 40, 41, 42, 43, 44, 45, 46, 47, 48, 49, 50, 51, 52] (by decide +kernel) (by decide +kernel)
set_option maxRecDepth 20000 in
theorem gX9_meanError_X9_playersUp : GoodIn wsX9_meanError (wsV RX9 200 RX9 yX9_playersUp wsX9_playersUp) := goodIn_app (goodIn_of _ (by decide +kernel)) ggX9_meanError_X9_playersUp
set_option maxRecDepth 20000 in
theorem ggX9_meanError_X9_isUp : GoodIn wsX9_meanError wsX9_isUp := goodIn_r _ [22, 12, 13, 14, 10, 15, 2, 16, 17, 18, 35, 36, 37, 38, 39, 40, 41, 42, 43, 44, 45, 46, 47, 48, 49, 50, 51, 52] (by decide +kernel) (by decide +kernel)
set_option maxRecDepth 20000 in
theorem gX9_meanError_X9_isUp : GoodIn wsX9_meanError (wsV RX9 228 RX9 yX9_isUp wsX9_isUp) := goodIn_app (goodIn_of _ (by decide +kernel)) ggX9_meanError_X9_isUp
set_option maxRecDepth 20000 in
theorem ggX9_meanError_X9_toldPlayer : GoodIn wsX9_meanError wsX9_toldPlayer := goodIn_r _ [26, 2, 12, 13, 14, 10, 15, 16, 17, 18, 27, 28, 29, 30, 31, 32, 33, 34, 35, 36, 37, 38, 39, 40, 41, 42, 43, 44, 45, 46, 47, 48, 49, 50, 51, 52] (by decide +kernel) (by decide +kernel)
set_option maxRecDepth 20000 in
theorem gX9_meanError_X9_toldPlayer : GoodIn wsX9_meanError (wsV RX9 273 RX9 yX9_toldPlayer wsX9_toldPlayer) := goodIn_app (goodIn_of _ (by decide +kernel)) ggX9_meanError_X9_toldPlayer
set_option maxRecDepth 20000 in
theorem ggX9_remember_X9_copy : GoodIn wsX9_remember wsX9_copy := goodIn_r _ [7] (by decide +kernel) (by decide +kernel)
set_option maxRecDepth 20000 in
theorem gX9_remember_X9_copy : GoodIn wsX9_remember (va_wsS RX9 177 yX9_copy wsX9_copy) := goodIn_app (goodIn_of _ (by decide +kernel)) ggX9_remember_X9_copy
set_option maxRecDepth 20000 in
theorem ggX9_propose_X9_in : GoodIn wsX9_propose wsX9_in := goodIn_r _ [5] (by decide +kernel) (by decide +kernel)
set_option maxRecDepth 20000 in
theorem gX9_propose_X9_in : GoodIn wsX9_propose (va_wsS RX9 65 yX9_in wsX9_in) := goodIn_app (goodIn_of _ (by decide +kernel)) ggX9_propose_X9_in
set_option maxRecDepth 20000 in
theorem ggX9_propose_X9_fails : GoodIn wsX9_propose wsX9_fails := goodIn_r _ [9, 1, 105, 106, 107, 108, 109, 110, 111, 112, 113, 114, 115, 116, 117, 118, 119, 120, 121, 122] (by decide +kernel) (by decide +kernel)
set_option maxRecDepth 20000 in
theorem gX9_propose_X9_fails : GoodIn wsX9_propose (wsV RX9 167 RX9 yX9_fails wsX9_fails) := goodIn_app (goodIn_of _ (by decide +kernel)) ggX9_propose_X9_fails
set_option maxRecDepth 20000 in
theorem ggX9_propose_X9_mayPropose : GoodIn wsX9_propose wsX9_mayPropose := goodIn_r _ [13, 14, 15, 16, 17, 4, 18, 19, 20, 21, 22, 23, 24, 25, 26, 27, 28, 29, 105, 106, 107, 108, 109, 110, 111, 112, 113, 114, 115, 116, 117, 118, 119, 120, 121, 122] (by decide +kernel) (by decide +kernel)
set_option maxRecDepth 20000 in
theorem gX9_propose_X9_mayPropose : GoodIn wsX9_propose (wsV RX9 291 RX9 yX9_mayPropose wsX9_mayPropose) := goodIn_app (goodIn_of _ (by decide +kernel)) ggX9_propose_X9_mayPropose
set_option maxRecDepth 20000 in
theorem ggX9_propose_X9_remember : GoodIn wsX9_propose wsX9_remember := goodIn_r _ [33, 34, 35, 14, 36, 37, 4, 38, 105, 106, 107, 108, 109, 110, 111, 112, 113, 114, 115, 116, 117, 118, 119, 120, 121, 122] (by decide +kernel) (by decide +kernel)
set_option maxRecDepth 20000 in
theorem gX9_propose_X9_remember : GoodIn wsX9_propose (wsV RX9 174 RX9 yX9_remember wsX9_remember) := goodIn_app (goodIn_of _ (by decide +kernel)) ggX9_propose_X9_remember
set_option maxRecDepth 20000 in
theorem ggX9_propose_X9_margin : GoodIn wsX9_propose wsX9_margin := goodIn_r _ [42, 14, 43, 44, 45, 4, 46, 47, 48, 49, 50, 51, 52, 53, 54, 55, 56, 57, 58, 59, 60, 61, 62, 19, 20, 21, 22, 23, 24, 25, 63, 64, 65, 66, 67, 68, 69, 70, 71, 72, 73, 105, 106, 107, 108, 109, 110, 111, 112, 113, 114, 115, 116, 117, 118, 119, 120, 121, 122] (by decide +kernel) (by decide +kernel)
set_option maxRecDepth 20000 in
theorem gX9_propose_X9_margin : GoodIn wsX9_propose (wsV RX9 265 RX9 yX9_margin wsX9_margin) := goodIn_app (goodIn_of _ (by decide +kernel)) ggX9_propose_X9_margin
set_option maxRecDepth 20000 in
theorem ggX9_propose_X9_proposeNow : GoodIn wsX9_propose wsX9_proposeNow := goodIn_r _ [77, 14, 78, 79, 80, 4, 81, 19, 20, 21, 22, 23, 24, 25, 82, 83, 84, 85, 86, 87, 88, 89, 90, 91, 92, 93, 94, 95, 96, 97, 98, 99, 100, 101, 102, 103, 104, 105, 106, 107, 108, 109, 110, 111, 112, 113, 114, 115, 116, 117, 118, 119, 120, 121, 122] (by decide +kernel) (by decide +kernel)
set_option maxRecDepth 20000 in
theorem gX9_propose_X9_proposeNow : GoodIn wsX9_propose (wsV RX9 288 RX9 yX9_proposeNow wsX9_proposeNow) := goodIn_app (goodIn_of _ (by decide +kernel)) ggX9_propose_X9_proposeNow
set_option maxRecDepth 20000 in
theorem ggX9_ask_X9_noPlayer : GoodIn wsX9_ask wsX9_noPlayer := goodIn_r _ [7, 2, 8, 9, 6, 10, 11, 12, 13, 14, 1, 46, 47, 48, 49, 50, 51, 52, 53, 54, 55, 56, 57, 58, 59, 60, 61, 62, 63] (by decide +kernel) (by decide +kernel)
set_option maxRecDepth 20000 in
theorem gX9_ask_X9_noPlayer : GoodIn wsX9_ask (wsV RX9 270 RX9 yX9_noPlayer wsX9_noPlayer) := goodIn_app (goodIn_of _ (by decide +kernel)) ggX9_ask_X9_noPlayer
set_option maxRecDepth 20000 in
theorem ggX9_ask_X9_isUp : GoodIn wsX9_ask wsX9_isUp := goodIn_r _ [18, 19, 20, 21, 6, 22, 2, 23, 24, 25, 46, 47, 48, 49, 50, 51, 52, 53, 54, 55, 56, 57, 58, 59, 60, 61, 62, 63] (by decide +kernel) (by decide +kernel)
set_option maxRecDepth 20000 in
theorem gX9_ask_X9_isUp : GoodIn wsX9_ask (wsV RX9 228 RX9 yX9_isUp wsX9_isUp) := goodIn_app (goodIn_of _ (by decide +kernel)) ggX9_ask_X9_isUp
set_option maxRecDepth 20000 in
theorem ggX9_ask_X9_fails : GoodIn wsX9_ask wsX9_fails := goodIn_r _ [14, 1, 46, 47, 48, 49, 50, 51, 52, 53, 54, 55, 56, 57, 58, 59, 60, 61, 62, 63] (by decide +kernel) (by decide +kernel)
set_option maxRecDepth 20000 in
theorem gX9_ask_X9_fails : GoodIn wsX9_ask (wsV RX9 167 RX9 yX9_fails wsX9_fails) := goodIn_app (goodIn_of _ (by decide +kernel)) ggX9_ask_X9_fails
set_option maxRecDepth 20000 in
theorem ggX9_ask_X9_remember : GoodIn wsX9_ask wsX9_remember := goodIn_r _ [29, 30, 31, 2, 32, 33, 6, 34, 46, 47, 48, 49, 50, 51, 52, 53, 54, 55, 56, 57, 58, 59, 60, 61, 62, 63] (by decide +kernel) (by decide +kernel)
set_option maxRecDepth 20000 in
theorem gX9_ask_X9_remember : GoodIn wsX9_ask (wsV RX9 174 RX9 yX9_remember wsX9_remember) := goodIn_app (goodIn_of _ (by decide +kernel)) ggX9_ask_X9_remember
set_option maxRecDepth 20000 in
theorem ggX9_ask_X9_clock : GoodIn wsX9_ask wsX9_clock := goodIn_r _ [38, 2, 19, 20, 21, 6, 22, 23, 24, 25, 46, 47, 48, 49, 50, 51, 52, 53, 54, 55, 56, 57, 58, 59, 60, 61, 62, 63] (by decide +kernel) (by decide +kernel)
set_option maxRecDepth 20000 in
theorem gX9_ask_X9_clock : GoodIn wsX9_ask (wsV RX9 184 RX9 yX9_clock wsX9_clock) := goodIn_app (goodIn_of _ (by decide +kernel)) ggX9_ask_X9_clock
set_option maxRecDepth 20000 in
theorem ggX9_ask_X9_send : GoodIn wsX9_ask wsX9_send := goodIn_r _ [42, 2, 43, 44, 6, 45, 46, 47, 48, 49, 50, 51, 52, 53, 54, 55, 56, 57, 58, 59, 60, 61, 62, 63] (by decide +kernel) (by decide +kernel)
set_option maxRecDepth 20000 in
theorem gX9_ask_X9_send : GoodIn wsX9_ask (wsV RX9 213 RX9 yX9_send wsX9_send) := goodIn_app (goodIn_of _ (by decide +kernel)) ggX9_ask_X9_send
set_option maxRecDepth 20000 in
theorem ggX9_pass_X9_in : GoodIn wsX9_pass wsX9_in := goodIn_r _ [6] (by decide +kernel) (by decide +kernel)
set_option maxRecDepth 20000 in
theorem gX9_pass_X9_in : GoodIn wsX9_pass (va_wsS RX9 65 yX9_in wsX9_in) := goodIn_app (goodIn_of _ (by decide +kernel)) ggX9_pass_X9_in
set_option maxRecDepth 20000 in
theorem ggX9_pass_X9_fails : GoodIn wsX9_pass wsX9_fails := goodIn_r _ [10, 1, 90, 91, 92, 93, 94, 95, 96, 97, 98, 99, 100, 101, 102, 103, 104, 105, 106, 107] (by decide +kernel) (by decide +kernel)
set_option maxRecDepth 20000 in
theorem gX9_pass_X9_fails : GoodIn wsX9_pass (wsV RX9 167 RX9 yX9_fails wsX9_fails) := goodIn_app (goodIn_of _ (by decide +kernel)) ggX9_pass_X9_fails
set_option maxRecDepth 20000 in
theorem ggX9_pass_X9_remember : GoodIn wsX9_pass wsX9_remember := goodIn_r _ [14, 15, 16, 2, 17, 18, 5, 19, 90, 91, 92, 93, 94, 95, 96, 97, 98, 99, 100, 101, 102, 103, 104, 105, 106, 107] (by decide +kernel) (by decide +kernel)
set_option maxRecDepth 20000 in
theorem gX9_pass_X9_remember : GoodIn wsX9_pass (wsV RX9 174 RX9 yX9_remember wsX9_remember) := goodIn_app (goodIn_of _ (by decide +kernel)) ggX9_pass_X9_remember
set_option maxRecDepth 20000 in
theorem ggX9_pass_X9_tick : GoodIn wsX9_pass wsX9_tick := goodIn_r _ [23, 2, 24, 25, 26, 5, 27, 28, 29, 30, 31, 32, 33, 34, 35, 36, 37, 38, 39, 40, 41, 42, 43, 44, 45, 46, 47, 48, 49, 50, 51, 52, 53, 54, 55, 56, 57, 58, 59, 60, 61, 62, 63, 64, 65, 66, 67, 68, 69, 70, 71, 72, 73, 74, 75, 76, 77, 78, 79, 80, 81, 82, 83, 84, 85, 86, 87, 88, 89, 90, 91, 92, 93, 94, 95, 96, 97, 98, 99, 100, 101, 102, 103, 104, 105, 106, 107] (by decide +kernel) (by decide +kernel)
set_option maxRecDepth 20000 in
theorem gX9_pass_X9_tick : GoodIn wsX9_pass (wsV RX9 259 RX9 yX9_tick wsX9_tick) := goodIn_app (goodIn_of _ (by decide +kernel)) ggX9_pass_X9_tick
set_option maxRecDepth 20000 in
theorem ggX9_power_X9_noPlayer : GoodIn wsX9_power wsX9_noPlayer := goodIn_r _ [6, 7, 8, 9, 5, 10, 11, 12, 13, 14, 1, 43, 44, 45, 46, 47, 48, 49, 50, 51, 52, 53, 54, 55, 56, 57, 58, 59, 60] (by decide +kernel) (by decide +kernel)
set_option maxRecDepth 20000 in
theorem gX9_power_X9_noPlayer : GoodIn wsX9_power (wsV RX9 270 RX9 yX9_noPlayer wsX9_noPlayer) := goodIn_app (goodIn_of _ (by decide +kernel)) ggX9_power_X9_noPlayer
set_option maxRecDepth 20000 in
theorem ggX9_power_X9_remember : GoodIn wsX9_power wsX9_remember := goodIn_r _ [18, 19, 20, 7, 21, 22, 5, 23, 43, 44, 45, 46, 47, 48, 49, 50, 51, 52, 53, 54, 55, 56, 57, 58, 59, 60] (by decide +kernel) (by decide +kernel)
set_option maxRecDepth 20000 in
theorem gX9_power_X9_remember : GoodIn wsX9_power (wsV RX9 174 RX9 yX9_remember wsX9_remember) := goodIn_app (goodIn_of _ (by decide +kernel)) ggX9_power_X9_remember
set_option maxRecDepth 20000 in
theorem ggX9_power_X9_isUp : GoodIn wsX9_power wsX9_isUp := goodIn_r _ [27, 28, 29, 30, 5, 31, 7, 32, 33, 34, 43, 44, 45, 46, 47, 48, 49, 50, 51, 52, 53, 54, 55, 56, 57, 58, 59, 60] (by decide +kernel) (by decide +kernel)
set_option maxRecDepth 20000 in
theorem gX9_power_X9_isUp : GoodIn wsX9_power (wsV RX9 228 RX9 yX9_isUp wsX9_isUp) := goodIn_app (goodIn_of _ (by decide +kernel)) ggX9_power_X9_isUp
set_option maxRecDepth 20000 in
theorem ggX9_power_X9_set : GoodIn wsX9_power wsX9_set := goodIn_r _ [38, 7, 32, 33, 5, 34, 43, 44, 45, 46, 47, 48, 49, 50, 51, 52, 53, 54, 55, 56, 57, 58, 59, 60] (by decide +kernel) (by decide +kernel)
set_option maxRecDepth 20000 in
theorem gX9_power_X9_set : GoodIn wsX9_power (wsV RX9 217 RX9 yX9_set wsX9_set) := goodIn_app (goodIn_of _ (by decide +kernel)) ggX9_power_X9_set
set_option maxRecDepth 20000 in
theorem ggX9_power_X9_dropPlan : GoodIn wsX9_power wsX9_dropPlan := goodIn_r _ [42, 35, 36, 37, 5, 38, 7, 32, 33, 34, 43, 44, 45, 46, 47, 48, 49, 50, 51, 52, 53, 54, 55, 56, 57, 58, 59, 60] (by decide +kernel) (by decide +kernel)
set_option maxRecDepth 20000 in
theorem gX9_power_X9_dropPlan : GoodIn wsX9_power (wsV RX9 237 RX9 yX9_dropPlan wsX9_dropPlan) := goodIn_app (goodIn_of _ (by decide +kernel)) ggX9_power_X9_dropPlan
set_option maxRecDepth 20000 in
theorem ggX9_cut_X9_noPlayer : GoodIn wsX9_cut wsX9_noPlayer := goodIn_r _ [11, 2, 12, 13, 10, 14, 15, 16, 17, 18, 1, 31, 32, 33, 34, 35, 36, 37, 38, 39, 40, 41, 42, 43, 44, 45, 46, 47, 48] (by decide +kernel) (by decide +kernel)
set_option maxRecDepth 20000 in
theorem gX9_cut_X9_noPlayer : GoodIn wsX9_cut (wsV RX9 270 RX9 yX9_noPlayer wsX9_noPlayer) := goodIn_app (goodIn_of _ (by decide +kernel)) ggX9_cut_X9_noPlayer
set_option maxRecDepth 20000 in
theorem ggX9_cut_X9_linkAt : GoodIn wsX9_cut wsX9_linkAt := goodIn_r _ [21] (by decide +kernel) (by decide +kernel)
set_option maxRecDepth 20000 in
theorem gX9_cut_X9_linkAt : GoodIn wsX9_cut (va_wsS RX9 145 yX9_linkAt wsX9_linkAt) := goodIn_app (goodIn_of _ (by decide +kernel)) ggX9_cut_X9_linkAt
set_option maxRecDepth 20000 in
theorem ggX9_cut_X9_fails : GoodIn wsX9_cut wsX9_fails := goodIn_r _ [18, 1, 31, 32, 33, 34, 35, 36, 37, 38, 39, 40, 41, 42, 43, 44, 45, 46, 47, 48] (by decide +kernel) (by decide +kernel)
set_option maxRecDepth 20000 in
theorem gX9_cut_X9_fails : GoodIn wsX9_cut (wsV RX9 167 RX9 yX9_fails wsX9_fails) := goodIn_app (goodIn_of _ (by decide +kernel)) ggX9_cut_X9_fails
set_option maxRecDepth 20000 in
theorem ggX9_cut_X9_remember : GoodIn wsX9_cut wsX9_remember := goodIn_r _ [25, 26, 27, 2, 28, 29, 10, 30, 31, 32, 33, 34, 35, 36, 37, 38, 39, 40, 41, 42, 43, 44, 45, 46, 47, 48] (by decide +kernel) (by decide +kernel)
set_option maxRecDepth 20000 in
theorem gX9_cut_X9_remember : GoodIn wsX9_cut (wsV RX9 174 RX9 yX9_remember wsX9_remember) := goodIn_app (goodIn_of _ (by decide +kernel)) ggX9_cut_X9_remember
set_option maxRecDepth 20000 in
theorem ggX9_lead_X9_noPlayer : GoodIn wsX9_lead wsX9_noPlayer := goodIn_r _ [7, 2, 8, 9, 6, 10, 11, 12, 13, 14, 1, 31, 32, 33, 34, 35, 36, 37, 38, 39, 40, 41, 42, 43, 44, 45, 46, 47, 48] (by decide +kernel) (by decide +kernel)
set_option maxRecDepth 20000 in
theorem gX9_lead_X9_noPlayer : GoodIn wsX9_lead (wsV RX9 270 RX9 yX9_noPlayer wsX9_noPlayer) := goodIn_app (goodIn_of _ (by decide +kernel)) ggX9_lead_X9_noPlayer
set_option maxRecDepth 20000 in
theorem ggX9_lead_X9_remember : GoodIn wsX9_lead wsX9_remember := goodIn_r _ [18, 19, 20, 2, 21, 22, 6, 23, 31, 32, 33, 34, 35, 36, 37, 38, 39, 40, 41, 42, 43, 44, 45, 46, 47, 48] (by decide +kernel) (by decide +kernel)
set_option maxRecDepth 20000 in
theorem gX9_lead_X9_remember : GoodIn wsX9_lead (wsV RX9 174 RX9 yX9_remember wsX9_remember) := goodIn_app (goodIn_of _ (by decide +kernel)) ggX9_lead_X9_remember
set_option maxRecDepth 20000 in
theorem ggX9_lead_X9_set : GoodIn wsX9_lead wsX9_set := goodIn_r _ [27, 2, 28, 29, 6, 30, 31, 32, 33, 34, 35, 36, 37, 38, 39, 40, 41, 42, 43, 44, 45, 46, 47, 48] (by decide +kernel) (by decide +kernel)
set_option maxRecDepth 20000 in
theorem gX9_lead_X9_set : GoodIn wsX9_lead (wsV RX9 217 RX9 yX9_set wsX9_set) := goodIn_app (goodIn_of _ (by decide +kernel)) ggX9_lead_X9_set
set_option maxRecDepth 20000 in
theorem ggX9_undo_X9_copy : GoodIn wsX9_undo wsX9_copy := goodIn_r _ [8] (by decide +kernel) (by decide +kernel)
set_option maxRecDepth 20000 in
theorem gX9_undo_X9_copy : GoodIn wsX9_undo (va_wsS RX9 177 yX9_copy wsX9_copy) := goodIn_app (goodIn_of _ (by decide +kernel)) ggX9_undo_X9_copy
set_option maxRecDepth 20000 in
theorem ggX9_checksum_X9_told : GoodIn wsX9_checksum wsX9_told := goodIn_r _ [8, 3, 9, 10, 11, 7, 12, 13, 14, 15, 16, 17, 18, 19, 20, 21, 22, 23, 24, 25, 26, 27, 28, 29, 30, 31, 32, 33, 34, 35, 36, 37, 38, 39, 40, 41, 42, 43, 44, 45, 46, 47, 48, 49, 50, 51, 52, 53, 54, 55, 56, 57, 58, 79, 80, 81, 82, 83, 84, 85, 86, 87, 88, 89, 90, 91, 92, 93, 94, 95, 96] (by decide +kernel) (by decide +kernel)
set_option maxRecDepth 20000 in
theorem gX9_checksum_X9_told : GoodIn wsX9_checksum (wsV RX9 267 RX9 yX9_told wsX9_told) := goodIn_app (goodIn_of _ (by decide +kernel)) ggX9_checksum_X9_told
set_option maxRecDepth 20000 in
theorem ggX9_checksum_X9_toldPlayer : GoodIn wsX9_checksum wsX9_toldPlayer := goodIn_r _ [62, 3, 17, 18, 19, 7, 20, 21, 22, 23, 63, 64, 65, 66, 67, 68, 69, 70, 79, 80, 81, 82, 83, 84, 85, 86, 87, 88, 89, 90, 91, 92, 93, 94, 95, 96] (by decide +kernel) (by decide +kernel)
set_option maxRecDepth 20000 in
theorem gX9_checksum_X9_toldPlayer : GoodIn wsX9_checksum (wsV RX9 273 RX9 yX9_toldPlayer wsX9_toldPlayer) := goodIn_app (goodIn_of _ (by decide +kernel)) ggX9_checksum_X9_toldPlayer
set_option maxRecDepth 20000 in
theorem ggX9_checksum_X9_toldMessage : GoodIn wsX9_checksum wsX9_toldMessage := goodIn_r _ [74, 3, 79, 80, 81, 82, 83, 84, 85, 86, 87, 88, 89, 90, 91, 92, 93, 94, 95, 96] (by decide +kernel) (by decide +kernel)
set_option maxRecDepth 20000 in
theorem gX9_checksum_X9_toldMessage : GoodIn wsX9_checksum (wsV RX9 279 RX9 yX9_toldMessage wsX9_toldMessage) := goodIn_app (goodIn_of _ (by decide +kernel)) ggX9_checksum_X9_toldMessage
set_option maxRecDepth 20000 in
theorem ggX9_checksum_X9_spreadNow : GoodIn wsX9_checksum wsX9_spreadNow := goodIn_r _ [78, 3, 79, 80, 81, 82, 83, 84, 85, 86, 87, 88, 89, 90, 91, 92, 93, 94, 95, 96] (by decide +kernel) (by decide +kernel)
set_option maxRecDepth 20000 in
theorem gX9_checksum_X9_spreadNow : GoodIn wsX9_checksum (wsV RX9 282 RX9 yX9_spreadNow wsX9_spreadNow) := goodIn_app (goodIn_of _ (by decide +kernel)) ggX9_checksum_X9_spreadNow
set_option maxRecDepth 20000 in
theorem ggJ0_length_8abf5_J0_coder_7d493 : GoodIn wsJ0_length_8abf5 wsJ0_coder_7d493 := goodIn_r _ [6, 7, 8] (by decide +kernel) (by decide +kernel)
set_option maxRecDepth 20000 in
theorem gJ0_length_8abf5_J0_coder_7d493 : GoodIn wsJ0_length_8abf5 (wsV RJ0 335 RJ0 yJ0_coder_7d493 wsJ0_coder_7d493) := goodIn_app (goodIn_of _ (by decide +kernel)) ggJ0_length_8abf5_J0_coder_7d493
set_option maxRecDepth 20000 in
theorem ggJ0_charAt_5068e_J0_isLatin1_aae02 : GoodIn wsJ0_charAt_5068e wsJ0_isLatin1_aae02 := goodIn_r _ [6, 7, 8] (by decide +kernel) (by decide +kernel)
set_option maxRecDepth 20000 in
theorem gJ0_charAt_5068e_J0_isLatin1_aae02 : GoodIn wsJ0_charAt_5068e (wsV RJ0 492 RJ0 yJ0_isLatin1_aae02 wsJ0_isLatin1_aae02) := goodIn_app (goodIn_of _ (by decide +kernel)) ggJ0_charAt_5068e_J0_isLatin1_aae02
set_option maxRecDepth 20000 in
theorem ggJ0_charAt_5068e_J1_charAt_3b067 : GoodIn wsJ0_charAt_5068e wsJ1_charAt_3b067 := goodIn_r _ [12, 13, 14, 5, 15, 16, 17, 18, 19, 20] (by decide +kernel) (by decide +kernel)
set_option maxRecDepth 20000 in
theorem gJ0_charAt_5068e_J1_charAt_3b067 : GoodIn wsJ0_charAt_5068e (va_wsS RJ0 495 yJ1_charAt_3b067 wsJ1_charAt_3b067) := goodIn_app (goodIn_of _ (by decide +kernel)) ggJ0_charAt_5068e_J1_charAt_3b067
set_option maxRecDepth 20000 in
theorem ggJ0_charAt_5068e_J2_charAt_3b067 : GoodIn wsJ0_charAt_5068e wsJ2_charAt_3b067 := goodIn_r _ [24, 25, 26, 23, 27, 28, 29, 30, 31, 14, 5, 15, 16, 17, 18, 19, 20, 32, 33, 34, 35, 36, 37] (by decide +kernel) (by decide +kernel)
set_option maxRecDepth 20000 in
theorem gJ0_charAt_5068e_J2_charAt_3b067 : GoodIn wsJ0_charAt_5068e (va_wsS RJ0 498 yJ2_charAt_3b067 wsJ2_charAt_3b067) := goodIn_app (goodIn_of _ (by decide +kernel)) ggJ0_charAt_5068e_J2_charAt_3b067
set_option maxRecDepth 20000 in
theorem ggJ0_checkIndex_df160_J3_checkIndex_8e157 : GoodIn wsJ0_checkIndex_df160 wsJ3_checkIndex_8e157 := goodIn_r _ [5] (by decide +kernel) (by decide +kernel)
set_option maxRecDepth 20000 in
theorem gJ0_checkIndex_df160_J3_checkIndex_8e157 : GoodIn wsJ0_checkIndex_df160 (va_wsS RJ0 1059 yJ3_checkIndex_8e157 wsJ3_checkIndex_8e157) := goodIn_app (goodIn_of _ (by decide +kernel)) ggJ0_checkIndex_df160_J3_checkIndex_8e157
