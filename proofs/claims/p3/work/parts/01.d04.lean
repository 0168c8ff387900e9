set_option maxRecDepth 20000 in
theorem ggX8_safest_X7_runOn : GoodIn wsX8_safest wsX7_runOn := goodIn_r _ [131, 29, 9, 132, 133, 134, 6, 135, 20, 19, 10, 11, 12, 13, 14, 136, 137, 138, 139, 22, 140, 141, 142, 143, 48, 144, 51, 145, 146, 147, 148, 50, 149, 150, 151, 152, 24, 8, 79, 80, 81, 82, 83, 84, 85, 86, 87, 88, 89, 102, 103, 104, 105, 106, 23, 107, 108, 109, 110, 111, 112, 113, 114, 115, 116, 117, 118, 21, 119, 120, 121, 122, 123, 61, 56, 52, 53, 54, 55, 57, 58, 59, 60, 94, 95, 96, 33, 97, 39, 38, 40, 41, 153, 154, 155, 156, 25, 157, 158, 159, 160, 124, 125, 126, 127, 26, 98, 99, 100, 101, 161, 162, 163, 164, 165, 166, 167, 168, 27, 169, 170, 171, 172, 28, 173, 174, 175, 176, 177, 178, 179, 180, 35, 181, 182, 183, 65, 184, 73, 74, 185, 186, 187, 188, 37, 42, 43, 44, 189, 197, 198, 199, 200, 201, 202, 203, 204, 205, 206, 207, 208, 209, 210, 211, 212, 213, 214, 215, 216, 217, 218, 219, 220, 231, 232, 233, 234, 235, 236, 237, 238, 239, 240, 241, 221, 222, 223, 224, 225, 226, 227, 228, 229, 230, 242, 243, 244, 245, 246, 247, 248] (by decide +kernel) (by decide +kernel)
set_option maxRecDepth 20000 in
theorem gX8_safest_X7_runOn : GoodIn wsX8_safest (wsV RX8 135 RX7 yX7_runOn wsX7_runOn) := goodIn_app (goodIn_of _ (by decide +kernel)) ggX8_safest_X7_runOn
set_option maxRecDepth 20000 in
theorem ggX8_meanError_X7_at : GoodIn wsX8_meanError wsX7_at := goodIn_r _ [10, 11, 46, 47, 48, 49, 50, 51, 52, 53, 54, 55, 56, 57, 58, 59, 60, 61] (by decide +kernel) (by decide +kernel)
set_option maxRecDepth 20000 in
theorem gX8_meanError_X7_at : GoodIn wsX8_meanError (wsV RX8 159 RX7 yX7_at wsX7_at) := goodIn_app (goodIn_of _ (by decide +kernel)) ggX8_meanError_X7_at
set_option maxRecDepth 20000 in
theorem ggX8_meanError_X7_error : GoodIn wsX8_meanError wsX7_error := goodIn_r _ [15, 16, 17, 18, 19, 9, 20, 21, 22, 23, 24, 25, 26, 27, 28, 29, 30, 31, 32, 33, 34, 7, 8, 10, 11, 46, 47, 48, 49, 50, 51, 52, 53, 54, 55, 56, 57, 58, 59, 60, 61, 70, 71, 72, 73, 74, 75, 76, 77, 78, 79, 62, 63, 64, 65, 66, 67, 68, 69] (by decide +kernel) (by decide +kernel)
set_option maxRecDepth 20000 in
theorem gX8_meanError_X7_error : GoodIn wsX8_meanError (wsV RX8 169 RX7 yX7_error wsX7_error) := goodIn_app (goodIn_of _ (by decide +kernel)) ggX8_meanError_X7_error
set_option maxRecDepth 20000 in
theorem ggX8_meanError_X7_countUp : GoodIn wsX8_meanError wsX7_countUp := goodIn_r _ [38, 25, 34, 7, 8, 9, 10, 11, 46, 47, 48, 49, 50, 51, 52, 53, 54, 55, 56, 57, 58, 59, 60, 61, 62, 63, 64, 65, 66, 67, 68, 69, 70, 71, 72, 73, 74, 75, 76, 77, 78, 79] (by decide +kernel) (by decide +kernel)
set_option maxRecDepth 20000 in
theorem gX8_meanError_X7_countUp : GoodIn wsX8_meanError (wsV RX8 177 RX7 yX7_countUp wsX7_countUp) := goodIn_app (goodIn_of _ (by decide +kernel)) ggX8_meanError_X7_countUp
set_option maxRecDepth 20000 in
theorem ggX8_propose_X7_canPropose : GoodIn wsX8_propose wsX7_canPropose := goodIn_r _ [10, 11, 12, 13, 14, 15, 9, 16, 17, 187, 188, 189, 190, 191, 192, 193, 194, 195, 196, 197, 198, 199, 200, 201, 202, 211, 212, 213, 214, 215, 216, 217, 218, 219, 220, 203, 204, 205, 206, 207, 208, 209, 210] (by decide +kernel) (by decide +kernel)
set_option maxRecDepth 20000 in
theorem gX8_propose_X7_canPropose : GoodIn wsX8_propose (wsV RX8 148 RX7 yX7_canPropose wsX7_canPropose) := goodIn_app (goodIn_of _ (by decide +kernel)) ggX8_propose_X7_canPropose
set_option maxRecDepth 20000 in
theorem ggX8_propose_X8_keepForUndo : GoodIn wsX8_propose wsX8_keepForUndo := goodIn_r _ [22, 23, 24, 5, 25, 26, 27, 28, 9, 29, 30, 17, 31, 12, 32, 33, 11, 34, 35, 36, 37, 38, 39, 40, 13, 14, 15, 16, 41, 42, 43, 44, 45, 46, 47, 48, 49, 50, 51, 52, 53, 54, 55, 56, 57, 58, 59, 60, 61, 62, 63, 64, 65, 66, 67, 68, 69, 70, 71, 72, 73, 74, 75, 76, 77, 78, 79, 80, 81, 82, 83, 84, 85, 180, 181, 182, 183, 184, 185, 186, 187, 188, 189, 190, 191, 192, 193, 194, 195, 196, 197, 198, 199, 200, 201, 202, 211, 212, 213, 214, 215, 216, 217, 218, 219, 220, 221, 222, 223, 203, 204, 205, 206, 207, 208, 209, 210] (by decide +kernel) (by decide +kernel)
set_option maxRecDepth 20000 in
theorem gX8_propose_X8_keepForUndo : GoodIn wsX8_propose (wsV RX8 62 RX8 yX8_keepForUndo wsX8_keepForUndo) := goodIn_app (goodIn_of _ (by decide +kernel)) ggX8_propose_X8_keepForUndo
set_option maxRecDepth 20000 in
theorem ggX8_propose_X7_margin : GoodIn wsX8_propose wsX7_margin := goodIn_r _ [89, 30, 90, 64, 65, 66, 91, 92, 93, 94, 95, 96, 9, 97, 98, 99, 100, 101, 32, 102, 103, 104, 105, 106, 107, 108, 109, 110, 111, 112, 113, 114, 115, 116, 117, 118, 119, 13, 14, 15, 16, 17, 120, 121, 122, 123, 124, 125, 126, 127, 128, 129, 130, 131, 132, 133, 134, 135, 136, 137, 138, 139, 140, 187, 188, 189, 190, 191, 192, 193, 194, 195, 196, 197, 198, 199, 200, 201, 202, 224, 225, 226, 227, 228, 229, 230, 231, 211, 212, 213, 214, 215, 216, 217, 218, 219, 220, 232, 233] (by decide +kernel) (by decide +kernel)
set_option maxRecDepth 20000 in
theorem gX8_propose_X7_margin : GoodIn wsX8_propose (wsV RX8 187 RX7 yX7_margin wsX7_margin) := goodIn_app (goodIn_of _ (by decide +kernel)) ggX8_propose_X7_margin
set_option maxRecDepth 20000 in
theorem ggX8_propose_X7_startProposal : GoodIn wsX8_propose wsX7_startProposal := goodIn_r _ [144, 12, 11, 33, 30, 36, 145, 146, 147, 9, 148, 149, 150, 151, 104, 152, 153, 154, 155, 156, 157, 76, 158, 78, 79, 80, 81, 82, 83, 84, 13, 14, 15, 16, 17, 159, 160, 161, 44, 162, 50, 49, 51, 52, 163, 164, 165, 166, 167, 168, 169, 170, 171, 34, 31, 35, 110, 111, 112, 113, 114, 115, 103, 105, 98, 99, 100, 101, 32, 102, 172, 173, 174, 59, 175, 72, 62, 61, 67, 63, 64, 65, 66, 68, 69, 70, 71, 176, 177, 178, 179, 37, 187, 188, 189, 190, 191, 192, 193, 194, 195, 196, 197, 198, 199, 200, 201, 202, 224, 225, 226, 227, 228, 229, 230, 231, 203, 204, 205, 206, 207, 208, 209, 210, 211, 212, 213, 214, 215, 216, 217, 218, 219, 220, 234, 235, 236, 237, 238, 239, 240, 221, 222, 223] (by decide +kernel) (by decide +kernel)
set_option maxRecDepth 20000 in
theorem gX8_propose_X7_startProposal : GoodIn wsX8_propose (wsV RX8 152 RX7 yX7_startProposal wsX7_startProposal) := goodIn_app (goodIn_of _ (by decide +kernel)) ggX8_propose_X7_startProposal
set_option maxRecDepth 20000 in
theorem ggX8_ask_X8_refuseNoPlayer : GoodIn wsX8_ask wsX8_refuseNoPlayer := goodIn_ca (goodIn_r _ [8, 9, 10, 3, 124, 125, 126, 127, 128, 129, 130, 141, 142, 143, 144, 145, 146, 147, 148, 149, 150, 151, 152, 153, 154, 155, 156, 157, 158, 159, 160, 161, 162, 163, 164] (by decide +kernel) (by decide +kernel)) (goodIn_sub (fun _ h => List.mem_cons_of_mem _ (List.mem_append_right _ h)) (by decide +kernel))
set_option maxRecDepth 20000 in
theorem gX8_ask_X8_refuseNoPlayer : GoodIn wsX8_ask (wsV RX8 82 RX8 yX8_refuseNoPlayer wsX8_refuseNoPlayer) := goodIn_app (goodIn_of _ (by decide +kernel)) ggX8_ask_X8_refuseNoPlayer
set_option maxRecDepth 20000 in
theorem ggX8_ask_X7_at : GoodIn wsX8_ask wsX7_at := goodIn_r _ [15, 16, 141, 142, 143, 144, 145, 146, 147, 148, 149, 150, 151, 152, 153, 154, 155, 156] (by decide +kernel) (by decide +kernel)
set_option maxRecDepth 20000 in
theorem gX8_ask_X7_at : GoodIn wsX8_ask (wsV RX8 159 RX7 yX7_at wsX7_at) := goodIn_app (goodIn_of _ (by decide +kernel)) ggX8_ask_X7_at
set_option maxRecDepth 20000 in
theorem ggX8_ask_X8_keepForUndo : GoodIn wsX8_ask wsX8_keepForUndo := goodIn_r _ [20, 21, 22, 3, 23, 24, 25, 26, 14, 27, 28, 16, 29, 30, 31, 32, 33, 34, 35, 36, 37, 38, 39, 40, 41, 12, 13, 15, 42, 43, 44, 45, 46, 47, 48, 49, 50, 51, 52, 53, 54, 55, 56, 57, 58, 59, 60, 61, 62, 63, 64, 65, 66, 67, 68, 69, 70, 71, 72, 73, 74, 75, 76, 77, 78, 79, 80, 81, 82, 83, 84, 85, 86, 124, 125, 126, 127, 128, 129, 130, 141, 142, 143, 144, 145, 146, 147, 148, 149, 150, 151, 152, 153, 154, 155, 156, 131, 132, 133, 134, 135, 136, 137, 138, 139, 140, 165, 166, 167, 168, 169, 170, 171, 172, 173, 174, 175] (by decide +kernel) (by decide +kernel)
set_option maxRecDepth 20000 in
theorem gX8_ask_X8_keepForUndo : GoodIn wsX8_ask (wsV RX8 62 RX8 yX8_keepForUndo wsX8_keepForUndo) := goodIn_app (goodIn_of _ (by decide +kernel)) ggX8_ask_X8_keepForUndo
set_option maxRecDepth 20000 in
theorem ggX8_ask_X7_sendAsk : GoodIn wsX8_ask wsX7_sendAsk := goodIn_r _ [90, 33, 91, 92, 93, 14, 94, 28, 32, 95, 96, 97, 98, 99, 100, 101, 102, 103, 104, 105, 106, 34, 29, 35, 107, 108, 109, 110, 111, 112, 113, 114, 115, 116, 117, 118, 31, 119, 120, 121, 122, 60, 123, 73, 63, 62, 68, 64, 65, 66, 67, 69, 70, 71, 72, 141, 142, 143, 144, 145, 146, 147, 148, 149, 150, 151, 152, 153, 154, 155, 156, 157, 158, 159, 160, 161, 162, 163, 164, 176, 177, 178, 179, 180, 181, 182, 165, 166, 167] (by decide +kernel) (by decide +kernel)
set_option maxRecDepth 20000 in
theorem gX8_ask_X7_sendAsk : GoodIn wsX8_ask (wsV RX8 198 RX7 yX7_sendAsk wsX7_sendAsk) := goodIn_app (goodIn_of _ (by decide +kernel)) ggX8_ask_X7_sendAsk
set_option maxRecDepth 20000 in
theorem ggX8_pass_X8_keepForUndo : GoodIn wsX8_pass wsX8_keepForUndo := goodIn_r _ [8, 9, 10, 3, 11, 12, 13, 14, 15, 16, 17, 18, 19, 20, 21, 22, 23, 24, 25, 26, 27, 28, 29, 30, 31, 32, 33, 34, 35, 36, 37, 38, 39, 40, 41, 42, 43, 44, 45, 46, 47, 48, 49, 50, 51, 52, 53, 54, 55, 56, 57, 58, 59, 60, 61, 62, 63, 64, 65, 66, 67, 68, 69, 70, 71, 72, 73, 74, 75, 76, 77, 78, 79, 179, 180, 181, 182, 183, 184, 185, 186, 187, 188, 189, 190, 191, 192, 193, 194, 195, 196, 197, 198, 199, 200, 201, 202, 203, 204, 205, 206, 207, 208, 209, 210, 211, 212, 213, 214, 215, 216, 217, 218, 219, 220, 221, 222] (by decide +kernel) (by decide +kernel)
set_option maxRecDepth 20000 in
theorem gX8_pass_X8_keepForUndo : GoodIn wsX8_pass (wsV RX8 62 RX8 yX8_keepForUndo wsX8_keepForUndo) := goodIn_app (goodIn_of _ (by decide +kernel)) ggX8_pass_X8_keepForUndo
set_option maxRecDepth 20000 in
theorem ggX8_pass_X7_tick : GoodIn wsX8_pass wsX7_tick := goodIn_r _ [83, 22, 19, 84, 20, 17, 85, 86, 87, 53, 88, 56, 89, 90, 91, 92, 55, 93, 94, 95, 15, 96, 25, 23, 31, 32, 33, 34, 18, 97, 98, 99, 100, 101, 102, 103, 104, 105, 106, 107, 108, 109, 110, 111, 112, 24, 113, 114, 115, 116, 117, 118, 119, 120, 121, 122, 123, 124, 21, 125, 126, 127, 128, 129, 66, 61, 57, 58, 59, 60, 62, 63, 64, 65, 130, 131, 132, 38, 133, 44, 43, 45, 46, 134, 135, 136, 137, 26, 138, 139, 140, 141, 142, 143, 144, 145, 27, 146, 147, 148, 149, 150, 151, 152, 153, 154, 155, 156, 157, 28, 158, 159, 160, 161, 29, 30, 162, 163, 164, 165, 166, 167, 168, 169, 40, 170, 171, 172, 70, 173, 78, 79, 174, 175, 176, 177, 42, 47, 48, 49, 178, 186, 187, 188, 189, 190, 191, 192, 193, 194, 195, 196, 197, 198, 199, 200, 201, 215, 216, 217, 218, 219, 220, 221, 222, 223, 224, 225, 226, 227, 228, 229, 230, 212, 213, 214, 231, 232, 233, 234, 235, 236, 237, 202, 203, 204, 205, 206, 207, 208, 209, 210, 211] (by decide +kernel) (by decide +kernel)
set_option maxRecDepth 20000 in
theorem gX8_pass_X7_tick : GoodIn wsX8_pass (wsV RX8 206 RX7 yX7_tick wsX7_tick) := goodIn_app (goodIn_of _ (by decide +kernel)) ggX8_pass_X7_tick
set_option maxRecDepth 20000 in
theorem ggX8_power_X8_refuseNoPlayer : GoodIn wsX8_power wsX8_refuseNoPlayer := goodIn_ca (goodIn_r _ [6, 7, 8, 1, 93, 94, 95, 96, 97, 98, 99, 100, 101, 102, 103, 104, 105, 106, 107, 108, 109, 110, 111, 112, 113, 114, 115, 116, 117, 118, 119, 120, 121, 122, 123] (by decide +kernel) (by decide +kernel)) (goodIn_sub (fun _ h => List.mem_cons_of_mem _ (List.mem_append_right _ h)) (by decide +kernel))
set_option maxRecDepth 20000 in
theorem gX8_power_X8_refuseNoPlayer : GoodIn wsX8_power (wsV RX8 82 RX8 yX8_refuseNoPlayer wsX8_refuseNoPlayer) := goodIn_app (goodIn_of _ (by decide +kernel)) ggX8_power_X8_refuseNoPlayer
set_option maxRecDepth 20000 in
theorem ggX8_power_X8_keepForUndo : GoodIn wsX8_power wsX8_keepForUndo := goodIn_r _ [12, 13, 14, 1, 15, 16, 17, 18, 19, 20, 21, 22, 23, 24, 25, 26, 27, 28, 29, 30, 31, 32, 33, 34, 35, 36, 37, 38, 39, 40, 41, 42, 43, 44, 45, 46, 47, 48, 49, 50, 51, 52, 53, 54, 55, 56, 57, 58, 59, 60, 61, 62, 63, 64, 65, 66, 67, 68, 69, 70, 71, 72, 73, 74, 75, 76, 77, 78, 79, 80, 81, 82, 83, 93, 94, 95, 96, 97, 98, 99, 100, 101, 102, 103, 104, 105, 106, 107, 108, 109, 110, 111, 112, 113, 114, 115, 124, 125, 126, 127, 128, 129, 130, 131, 132, 133, 134, 135, 136, 137, 138, 139, 140, 141, 142, 143, 144] (by decide +kernel) (by decide +kernel)
set_option maxRecDepth 20000 in
theorem gX8_power_X8_keepForUndo : GoodIn wsX8_power (wsV RX8 62 RX8 yX8_keepForUndo wsX8_keepForUndo) := goodIn_app (goodIn_of _ (by decide +kernel)) ggX8_power_X8_keepForUndo
set_option maxRecDepth 20000 in
theorem ggX8_power_X7_at : GoodIn wsX8_power wsX7_at := goodIn_r _ [38, 22, 100, 101, 102, 103, 104, 105, 106, 107, 108, 109, 110, 111, 112, 113, 114, 115] (by decide +kernel) (by decide +kernel)
set_option maxRecDepth 20000 in
theorem gX8_power_X7_at : GoodIn wsX8_power (wsV RX8 159 RX7 yX7_at wsX7_at) := goodIn_app (goodIn_of _ (by decide +kernel)) ggX8_power_X7_at
set_option maxRecDepth 20000 in
theorem ggX8_power_X3_turn : GoodIn wsX8_power wsX3_turn := goodIn_r _ [88, 44, 89, 90, 91, 42, 92, 47, 48, 124, 125, 126, 127, 128, 129, 130, 131, 132, 133] (by decide +kernel) (by decide +kernel)
set_option maxRecDepth 20000 in
theorem gX8_power_X3_turn : GoodIn wsX8_power (wsV RX8 209 RX3 yX3_turn wsX3_turn) := goodIn_app (goodIn_of _ (by decide +kernel)) ggX8_power_X3_turn
set_option maxRecDepth 20000 in
theorem ggX8_cut_X8_refuseNoPlayer : GoodIn wsX8_cut wsX8_refuseNoPlayer := goodIn_ca (goodIn_r _ [8, 9, 10, 3, 109, 110, 111, 112, 113, 114, 115, 116, 117, 118, 119, 120, 121, 122, 123, 124, 125, 126, 127, 128, 129, 130, 131, 132, 133, 134, 135, 136, 137, 138, 139] (by decide +kernel) (by decide +kernel)) (goodIn_sub (fun _ h => List.mem_cons_of_mem _ (List.mem_append_right _ h)) (by decide +kernel))
set_option maxRecDepth 20000 in
theorem gX8_cut_X8_refuseNoPlayer : GoodIn wsX8_cut (wsV RX8 82 RX8 yX8_refuseNoPlayer wsX8_refuseNoPlayer) := goodIn_app (goodIn_of _ (by decide +kernel)) ggX8_cut_X8_refuseNoPlayer
set_option maxRecDepth 20000 in
theorem ggX8_cut_X7_delay : GoodIn wsX8_cut wsX7_delay := goodIn_r _ [15, 16, 17, 18, 19, 20, 21, 22, 23, 24, 25, 116, 117, 118, 119, 120, 121, 122, 123, 124, 125, 126, 127, 128, 129, 130, 131, 132, 133, 134, 135, 136, 137, 138, 139] (by decide +kernel) (by decide +kernel)
set_option maxRecDepth 20000 in
theorem gX8_cut_X7_delay : GoodIn wsX8_cut (wsV RX8 93 RX7 yX7_delay wsX7_delay) := goodIn_app (goodIn_of _ (by decide +kernel)) ggX8_cut_X7_delay
set_option maxRecDepth 20000 in
theorem ggX8_cut_X8_keepForUndo : GoodIn wsX8_cut wsX8_keepForUndo := goodIn_r _ [29, 30, 31, 3, 32, 33, 34, 35, 14, 36, 16, 37, 38, 39, 40, 41, 42, 43, 44, 45, 46, 47, 48, 49, 50, 51, 52, 53, 54, 55, 56, 57, 58, 59, 60, 61, 62, 63, 64, 65, 66, 67, 68, 69, 70, 71, 72, 73, 74, 75, 76, 77, 78, 79, 80, 81, 82, 83, 84, 85, 86, 87, 88, 89, 90, 91, 92, 93, 94, 95, 96, 97, 98, 109, 110, 111, 112, 113, 114, 115, 116, 117, 118, 119, 120, 121, 122, 123, 124, 125, 126, 127, 128, 129, 130, 131, 140, 141, 142, 143, 144, 145, 146, 147, 148, 149, 150, 151, 152, 153, 154, 155, 156, 157, 158, 159, 160] (by decide +kernel) (by decide +kernel)
set_option maxRecDepth 20000 in
theorem gX8_cut_X8_keepForUndo : GoodIn wsX8_cut (wsV RX8 62 RX8 yX8_keepForUndo wsX8_keepForUndo) := goodIn_app (goodIn_of _ (by decide +kernel)) ggX8_cut_X8_keepForUndo
set_option maxRecDepth 20000 in
theorem ggX8_cut_X7_isCut : GoodIn wsX8_cut wsX7_isCut := goodIn_r _ [102, 40, 103, 24, 20, 25, 116, 117, 118, 119, 120, 121, 122, 123, 124, 125, 126, 127, 128, 129, 130, 131] (by decide +kernel) (by decide +kernel)
set_option maxRecDepth 20000 in
theorem gX8_cut_X7_isCut : GoodIn wsX8_cut (wsV RX8 89 RX7 yX7_isCut wsX7_isCut) := goodIn_app (goodIn_of _ (by decide +kernel)) ggX8_cut_X7_isCut
set_option maxRecDepth 20000 in
theorem ggX8_cut_X7_setCut : GoodIn wsX8_cut wsX7_setCut := goodIn_r _ [107, 40, 108, 103, 24, 20, 25, 116, 117, 118, 119, 120, 121, 122, 123, 124, 125, 126, 127, 128, 129, 130, 131] (by decide +kernel) (by decide +kernel)
set_option maxRecDepth 20000 in
theorem gX8_cut_X7_setCut : GoodIn wsX8_cut (wsV RX8 215 RX7 yX7_setCut wsX7_setCut) := goodIn_app (goodIn_of _ (by decide +kernel)) ggX8_cut_X7_setCut
set_option maxRecDepth 20000 in
theorem ggX8_lead_X8_refuseNoPlayer : GoodIn wsX8_lead wsX8_refuseNoPlayer := goodIn_ca (goodIn_r _ [6, 7, 8, 1, 88, 89, 90, 91, 92, 93, 94, 95, 96, 97, 98, 99, 100, 101, 102, 103, 104, 105, 106, 107, 108, 109, 110, 111, 112, 113, 114, 115, 116, 117, 118] (by decide +kernel) (by decide +kernel)) (goodIn_sub (fun _ h => List.mem_cons_of_mem _ (List.mem_append_right _ h)) (by decide +kernel))
set_option maxRecDepth 20000 in
theorem gX8_lead_X8_refuseNoPlayer : GoodIn wsX8_lead (wsV RX8 82 RX8 yX8_refuseNoPlayer wsX8_refuseNoPlayer) := goodIn_app (goodIn_of _ (by decide +kernel)) ggX8_lead_X8_refuseNoPlayer
set_option maxRecDepth 20000 in
theorem ggX8_lead_X8_keepForUndo : GoodIn wsX8_lead wsX8_keepForUndo := goodIn_r _ [12, 13, 14, 1, 15, 16, 17, 18, 19, 20, 21, 22, 23, 24, 25, 26, 27, 28, 29, 30, 31, 32, 33, 34, 35, 36, 37, 38, 39, 40, 41, 42, 43, 44, 45, 46, 47, 48, 49, 50, 51, 52, 53, 54, 55, 56, 57, 58, 59, 60, 61, 62, 63, 64, 65, 66, 67, 68, 69, 70, 71, 72, 73, 74, 75, 76, 77, 78, 79, 80, 81, 82, 83, 88, 89, 90, 91, 92, 93, 94, 95, 96, 97, 98, 99, 100, 101, 102, 103, 104, 105, 106, 107, 108, 109, 110, 119, 120, 121, 122, 123, 124, 125, 126, 127, 128, 129, 130, 131, 132, 133, 134, 135, 136, 137, 138, 139] (by decide +kernel) (by decide +kernel)
set_option maxRecDepth 20000 in
theorem gX8_lead_X8_keepForUndo : GoodIn wsX8_lead (wsV RX8 62 RX8 yX8_keepForUndo wsX8_keepForUndo) := goodIn_app (goodIn_of _ (by decide +kernel)) ggX8_lead_X8_keepForUndo
set_option maxRecDepth 20000 in
theorem ggX8_lead_X7_makeConductor : GoodIn wsX8_lead wsX7_makeConductor := goodIn_r _ [87, 27, 22, 35, 36, 37, 19, 38, 95, 96, 97, 98, 99, 100, 101, 102, 103, 104, 105, 106, 107, 108, 109, 110, 119, 120, 121, 122, 123, 124, 125, 126, 127, 128] (by decide +kernel) (by decide +kernel)
set_option maxRecDepth 20000 in
theorem gX8_lead_X7_makeConductor : GoodIn wsX8_lead (wsV RX8 219 RX7 yX7_makeConductor wsX7_makeConductor) := goodIn_app (goodIn_of _ (by decide +kernel)) ggX8_lead_X7_makeConductor
set_option maxRecDepth 20000 in
theorem ggX8_undo_X7_copyFrom : GoodIn wsX8_undo wsX7_copyFrom := goodIn_r _ [9, 10, 11, 12, 13, 14, 15, 16, 17, 18, 19, 20, 21, 22, 23, 24, 25, 26, 8, 27, 28, 29, 30, 31, 32, 33, 34, 35, 36, 37, 38, 39, 40, 41, 42, 43, 44, 45, 46, 47, 48, 49, 50, 51, 52, 53, 54, 55, 56, 57, 58, 59, 60, 61, 62, 63, 64, 65, 66, 67, 68, 69, 70, 71, 72, 80, 81, 82, 83, 84, 85, 86, 87, 88, 89, 90, 91, 92, 93, 94, 95, 96, 97, 98, 99, 100, 101, 102, 103, 104, 105, 106, 107, 108, 109, 110, 111, 112, 113, 114, 115, 116] (by decide +kernel) (by decide +kernel)
set_option maxRecDepth 20000 in
theorem gX8_undo_X7_copyFrom : GoodIn wsX8_undo (wsV RX8 131 RX7 yX7_copyFrom wsX7_copyFrom) := goodIn_app (goodIn_of _ (by decide +kernel)) ggX8_undo_X7_copyFrom
set_option maxRecDepth 20000 in
theorem ggX8_checksum_X7_count : GoodIn wsX8_checksum wsX7_count := goodIn_r _ [7, 8, 9, 10, 11, 12, 13, 14, 15, 16, 17, 18, 19, 20, 21, 6, 22, 23, 24, 25, 26, 27, 28, 29, 30, 31, 32, 33, 34, 35, 36, 37, 38, 39, 40, 41, 42, 43, 44, 45, 46, 47, 48, 49, 50, 51, 52, 53, 54, 55, 56, 57, 58, 59, 60, 61, 62, 63, 64, 65, 66, 67, 68, 69, 70, 71, 72, 73, 74, 75, 76, 77, 78, 79, 80, 81, 82, 83, 84, 85, 86, 87, 88, 89, 90, 163, 164, 165, 166, 167, 168, 169, 170, 171, 172, 173, 174, 175, 176, 177, 178, 179, 180, 181, 182, 183, 184, 185, 186, 187, 188, 189, 190, 191, 192, 193, 194, 195, 196, 197, 198, 199, 200, 201] (by decide +kernel) (by decide +kernel)
set_option maxRecDepth 20000 in
theorem gX8_checksum_X7_count : GoodIn wsX8_checksum (wsV RX8 78 RX7 yX7_count wsX7_count) := goodIn_app (goodIn_of _ (by decide +kernel)) ggX8_checksum_X7_count
set_option maxRecDepth 20000 in
theorem ggX8_checksum_X7_tellPlayer : GoodIn wsX8_checksum wsX7_tellPlayer := goodIn_r _ [94, 23, 24, 25, 6, 26, 27, 95, 96, 97, 98, 8, 9, 99, 100, 101, 54, 102, 103, 104, 105, 106, 107, 108, 10, 109, 110, 111, 112, 190, 191, 192, 193, 194, 195, 196, 197, 198, 199, 163, 164, 165, 166, 167, 168, 169, 170, 171, 172, 173, 174, 175, 176, 177, 178, 179, 180, 181, 182, 183, 184, 185, 186] (by decide +kernel) (by decide +kernel)
set_option maxRecDepth 20000 in
theorem gX8_checksum_X7_tellPlayer : GoodIn wsX8_checksum (wsV RX8 85 RX7 yX7_tellPlayer wsX7_tellPlayer) := goodIn_app (goodIn_of _ (by decide +kernel)) ggX8_checksum_X7_tellPlayer
set_option maxRecDepth 20000 in
theorem ggX8_checksum_X7_tellMessage : GoodIn wsX8_checksum wsX7_tellMessage := goodIn_r _ [116, 11, 9, 117, 118, 119, 120, 121, 122, 123, 124, 125, 126, 127, 128, 129, 130, 131, 132, 133, 134, 135, 136, 137, 138, 163, 164, 165, 166, 167, 168, 169, 170, 171, 172, 173, 174, 175, 176, 177, 178, 187, 188, 189, 202, 203, 204, 205, 206, 207, 208] (by decide +kernel) (by decide +kernel)
set_option maxRecDepth 20000 in
theorem gX8_checksum_X7_tellMessage : GoodIn wsX8_checksum (wsV RX8 110 RX7 yX7_tellMessage wsX7_tellMessage) := goodIn_app (goodIn_of _ (by decide +kernel)) ggX8_checksum_X7_tellMessage
set_option maxRecDepth 20000 in
theorem ggX8_checksum_X4_tell : GoodIn wsX8_checksum wsX4_tell := goodIn_r _ [143, 144, 145, 146, 147, 148, 149, 209, 210, 211, 212, 213, 214, 215, 216] (by decide +kernel) (by decide +kernel)
set_option maxRecDepth 20000 in
theorem gX8_checksum_X4_tell : GoodIn wsX8_checksum (wsV RX8 122 RX4 yX4_tell wsX4_tell) := goodIn_app (goodIn_of _ (by decide +kernel)) ggX8_checksum_X4_tell
set_option maxRecDepth 20000 in
theorem ggX8_checksum_X4_spreadOfChanges : GoodIn wsX8_checksum wsX4_spreadOfChanges := goodIn_r _ [153, 154, 155, 209, 210, 211, 212, 213, 214, 215, 216] (by decide +kernel) (by decide +kernel)
set_option maxRecDepth 20000 in
theorem gX8_checksum_X4_spreadOfChanges : GoodIn wsX8_checksum (wsV RX8 127 RX4 yX4_spreadOfChanges wsX4_spreadOfChanges) := goodIn_app (goodIn_of _ (by decide +kernel)) ggX8_checksum_X4_spreadOfChanges
