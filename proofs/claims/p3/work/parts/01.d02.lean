set_option maxRecDepth 20000 in
theorem ggX7_count_X7_margin : GoodIn wsX7_count wsX7_margin := goodIn_r _ [29, 1, 30, 31, 32, 33, 34, 35, 36, 37, 38, 39, 15, 40, 41, 42, 43, 44, 45, 46, 47, 48, 49, 50, 51, 52, 53, 54, 55, 56, 57, 58, 59, 60, 61, 62, 63, 17, 18, 19, 20, 21, 64, 65, 66, 67, 68, 69, 70, 71, 72, 73, 74, 75, 76, 77, 78, 79, 80, 81, 82, 83, 84, 85, 86, 87, 88, 89, 90, 91, 92, 93, 94, 95, 96, 97, 98, 99, 100, 101, 102, 103, 104, 105, 106, 107, 108, 112, 113, 114, 115, 116, 117, 118, 119, 120, 121, 122, 123] (by decide +kernel) (by decide +kernel)
set_option maxRecDepth 20000 in
theorem gX7_count_X7_margin : GoodIn wsX7_count (wsV RX7 178 RX7 yX7_margin wsX7_margin) := goodIn_app (goodIn_of _ (by decide +kernel)) ggX7_count_X7_margin
set_option maxRecDepth 20000 in
theorem ggX7_tellPlayer_X7_at : GoodIn wsX7_tellPlayer wsX7_at := goodIn_r _ [5, 6, 39, 40, 41, 42, 43, 44, 45, 46, 47, 48, 49, 50, 51, 52, 53, 54] (by decide +kernel) (by decide +kernel)
set_option maxRecDepth 20000 in
theorem gX7_tellPlayer_X7_at : GoodIn wsX7_tellPlayer (wsV RX7 92 RX7 yX7_at wsX7_at) := goodIn_app (goodIn_of _ (by decide +kernel)) ggX7_tellPlayer_X7_at
set_option maxRecDepth 20000 in
theorem ggX7_tellPlayer_X7_clock : GoodIn wsX7_tellPlayer wsX7_clock := goodIn_r _ [10, 11, 12, 13, 14, 15, 16, 17, 18, 19, 39, 40, 41, 42, 43, 44, 45, 46, 47, 48, 49, 50, 51, 52, 53, 54, 55, 56, 57, 58, 59, 60, 61, 62] (by decide +kernel) (by decide +kernel)
set_option maxRecDepth 20000 in
theorem gX7_tellPlayer_X7_clock : GoodIn wsX7_tellPlayer (wsV RX7 110 RX7 yX7_clock wsX7_clock) := goodIn_app (goodIn_of _ (by decide +kernel)) ggX7_tellPlayer_X7_clock
set_option maxRecDepth 20000 in
theorem ggX7_tellPlayer_X7_error : GoodIn wsX7_tellPlayer wsX7_error := goodIn_r _ [23, 24, 25, 26, 27, 4, 28, 7, 8, 9, 10, 11, 12, 13, 14, 15, 16, 17, 18, 19, 1, 2, 3, 5, 6, 39, 40, 41, 42, 43, 44, 45, 46, 47, 48, 49, 50, 51, 52, 53, 54, 29, 30, 31, 32, 33, 34, 35, 36, 37, 38, 55, 56, 57, 58, 59, 60, 61, 62] (by decide +kernel) (by decide +kernel)
set_option maxRecDepth 20000 in
theorem gX7_tellPlayer_X7_error : GoodIn wsX7_tellPlayer (wsV RX7 191 RX7 yX7_error wsX7_error) := goodIn_app (goodIn_of _ (by decide +kernel)) ggX7_tellPlayer_X7_error
set_option maxRecDepth 20000 in
theorem ggX7_tellMessage_X2_read : GoodIn wsX7_tellMessage wsX2_read := goodIn_r _ [8, 9, 10, 41, 42, 43, 44, 45, 46, 47, 48, 49, 50] (by decide +kernel) (by decide +kernel)
set_option maxRecDepth 20000 in
theorem gX7_tellMessage_X2_read : GoodIn wsX7_tellMessage (wsV RX7 194 RX2 yX2_read wsX2_read) := goodIn_app (goodIn_of _ (by decide +kernel)) ggX7_tellMessage_X2_read
set_option maxRecDepth 20000 in
theorem ggX7_tellMessage_X1_tell : GoodIn wsX7_tellMessage wsX1_tell := goodIn_r _ [15, 16, 17, 18, 19, 20, 44, 45, 46, 47, 48, 49, 50] (by decide +kernel) (by decide +kernel)
set_option maxRecDepth 20000 in
theorem gX7_tellMessage_X1_tell : GoodIn wsX7_tellMessage (wsV RX7 198 RX1 yX1_tell wsX1_tell) := goodIn_app (goodIn_of _ (by decide +kernel)) ggX7_tellMessage_X1_tell
set_option maxRecDepth 20000 in
theorem ggX7_tellMessage_X2_countAt : GoodIn wsX7_tellMessage wsX2_countAt := goodIn_r _ [24, 9, 41, 42, 43] (by decide +kernel) (by decide +kernel)
set_option maxRecDepth 20000 in
theorem gX7_tellMessage_X2_countAt : GoodIn wsX7_tellMessage (wsV RX7 201 RX2 yX2_countAt wsX2_countAt) := goodIn_app (goodIn_of _ (by decide +kernel)) ggX7_tellMessage_X2_countAt
set_option maxRecDepth 20000 in
theorem ggX7_canPropose_X7_at : GoodIn wsX7_canPropose wsX7_at := goodIn_r _ [7, 8, 9, 10, 11, 12, 13, 14, 15, 16, 17, 18, 19, 20, 21, 22, 23, 24] (by decide +kernel) (by decide +kernel)
set_option maxRecDepth 20000 in
theorem gX7_canPropose_X7_at : GoodIn wsX7_canPropose (wsV RX7 92 RX7 yX7_at wsX7_at) := goodIn_app (goodIn_of _ (by decide +kernel)) ggX7_canPropose_X7_at
set_option maxRecDepth 20000 in
theorem ggX7_startProposal_X7_clock : GoodIn wsX7_startProposal wsX7_clock := goodIn_r _ [10, 4, 3, 11, 12, 13, 14, 15, 16, 17, 92, 93, 94, 95, 96, 97, 98, 99, 100, 101, 102, 103, 104, 105, 106, 107, 108, 109, 110, 111, 112, 113, 114, 115] (by decide +kernel) (by decide +kernel)
set_option maxRecDepth 20000 in
theorem gX7_startProposal_X7_clock : GoodIn wsX7_startProposal (wsV RX7 110 RX7 yX7_clock wsX7_clock) := goodIn_app (goodIn_of _ (by decide +kernel)) ggX7_startProposal_X7_clock
set_option maxRecDepth 20000 in
theorem ggX7_startProposal_X4_start : GoodIn wsX7_startProposal wsX4_start := goodIn_r _ [22, 23, 24, 25, 26, 27, 28, 29, 116, 117, 118, 119, 120, 121, 122, 123] (by decide +kernel) (by decide +kernel)
set_option maxRecDepth 20000 in
theorem gX7_startProposal_X4_start : GoodIn wsX7_startProposal (wsV RX7 210 RX4 yX4_start wsX4_start) := goodIn_app (goodIn_of _ (by decide +kernel)) ggX7_startProposal_X4_start
set_option maxRecDepth 20000 in
theorem ggX7_startProposal_X7_at : GoodIn wsX7_startProposal wsX7_at := goodIn_r _ [33, 34, 92, 93, 94, 95, 96, 97, 98, 99, 100, 101, 102, 103, 104, 105, 106, 107] (by decide +kernel) (by decide +kernel)
set_option maxRecDepth 20000 in
theorem gX7_startProposal_X7_at : GoodIn wsX7_startProposal (wsV RX7 92 RX7 yX7_at wsX7_at) := goodIn_app (goodIn_of _ (by decide +kernel)) ggX7_startProposal_X7_at
set_option maxRecDepth 20000 in
theorem ggX7_startProposal_X3_takePlan : GoodIn wsX7_startProposal wsX3_takePlan := goodIn_r _ [39, 40, 41, 42, 43, 124, 125, 126, 127, 128, 129, 130, 131, 132, 133] (by decide +kernel) (by decide +kernel)
set_option maxRecDepth 20000 in
theorem gX7_startProposal_X3_takePlan : GoodIn wsX7_startProposal (wsV RX7 217 RX3 yX3_takePlan wsX3_takePlan) := goodIn_app (goodIn_of _ (by decide +kernel)) ggX7_startProposal_X3_takePlan
set_option maxRecDepth 20000 in
theorem ggX7_startProposal_X7_sendToOthers : GoodIn wsX7_startProposal wsX7_sendToOthers := goodIn_r _ [47, 4, 1, 5, 48, 49, 50, 9, 51, 52, 53, 54, 3, 55, 56, 57, 58, 14, 59, 60, 61, 62, 63, 64, 65, 66, 67, 68, 69, 70, 71, 72, 73, 74, 75, 76, 77, 78, 79, 80, 81, 82, 83, 84, 85, 86, 92, 93, 94, 95, 96, 97, 98, 99, 100, 101, 102, 103, 104, 105, 106, 107, 108, 109, 110, 111, 112, 113, 114, 115, 116, 117, 118, 119, 120, 121, 122, 123, 134, 135, 136, 137, 138, 139, 140, 141, 142, 143] (by decide +kernel) (by decide +kernel)
set_option maxRecDepth 20000 in
theorem gX7_startProposal_X7_sendToOthers : GoodIn wsX7_startProposal (wsV RX7 220 RX7 yX7_sendToOthers wsX7_sendToOthers) := goodIn_app (goodIn_of _ (by decide +kernel)) ggX7_startProposal_X7_sendToOthers
set_option maxRecDepth 20000 in
theorem ggX7_startProposal_X7_commitIfVoted : GoodIn wsX7_startProposal wsX7_commitIfVoted := goodIn_r _ [90, 1, 4, 91, 5, 30, 31, 32, 9, 33, 34, 35, 36, 37, 38, 39, 40, 41, 42, 43, 44, 45, 46, 47, 48, 49, 50, 51, 52, 53, 54, 3, 55, 56, 57, 58, 14, 59, 60, 61, 62, 63, 64, 65, 66, 67, 68, 69, 70, 71, 72, 73, 74, 75, 76, 77, 78, 79, 80, 81, 82, 83, 84, 85, 86, 92, 93, 94, 95, 96, 97, 98, 99, 100, 101, 102, 103, 104, 105, 106, 107, 116, 117, 118, 119, 120, 121, 122, 123, 108, 109, 110, 111, 112, 113, 114, 115, 124, 125, 126, 127, 128, 129, 130, 131, 132, 133, 134, 135, 136, 137, 138, 139, 140, 141, 142, 143] (by decide +kernel) (by decide +kernel)
set_option maxRecDepth 20000 in
theorem gX7_startProposal_X7_commitIfVoted : GoodIn wsX7_startProposal (wsV RX7 223 RX7 yX7_commitIfVoted wsX7_commitIfVoted) := goodIn_app (goodIn_of _ (by decide +kernel)) ggX7_startProposal_X7_commitIfVoted
set_option maxRecDepth 20000 in
theorem ggX7_sendAsk_X7_clock : GoodIn wsX7_sendAsk wsX7_clock := goodIn_r _ [6, 7, 8, 9, 10, 11, 12, 13, 14, 15, 55, 56, 57, 58, 59, 60, 61, 62, 63, 64, 65, 66, 67, 68, 69, 70, 71, 72, 73, 74, 75, 76, 77, 78] (by decide +kernel) (by decide +kernel)
set_option maxRecDepth 20000 in
theorem gX7_sendAsk_X7_clock : GoodIn wsX7_sendAsk (wsV RX7 110 RX7 yX7_clock wsX7_clock) := goodIn_app (goodIn_of _ (by decide +kernel)) ggX7_sendAsk_X7_clock
set_option maxRecDepth 20000 in
theorem ggX7_sendAsk_X7_send : GoodIn wsX7_sendAsk wsX7_send := goodIn_r _ [19, 20, 21, 7, 22, 8, 23, 24, 25, 26, 12, 27, 28, 29, 30, 31, 32, 33, 34, 5, 35, 36, 37, 38, 39, 40, 41, 42, 43, 44, 45, 46, 47, 48, 49, 50, 51, 52, 53, 54, 55, 56, 57, 58, 59, 60, 61, 62, 63, 64, 65, 66, 67, 68, 69, 70, 79, 80, 81, 82, 83, 84, 85, 71, 72, 73, 74, 75, 76, 77, 78, 86, 87, 88] (by decide +kernel) (by decide +kernel)
set_option maxRecDepth 20000 in
theorem gX7_sendAsk_X7_send : GoodIn wsX7_sendAsk (wsV RX7 226 RX7 yX7_send wsX7_send) := goodIn_app (goodIn_of _ (by decide +kernel)) ggX7_sendAsk_X7_send
set_option maxRecDepth 20000 in
theorem ggX7_makeConductor_X7_at : GoodIn wsX7_makeConductor wsX7_at := goodIn_r _ [7, 2, 8, 9, 10, 11, 12, 13, 14, 15, 16, 17, 18, 19, 20, 21, 22, 23] (by decide +kernel) (by decide +kernel)
set_option maxRecDepth 20000 in
theorem gX7_makeConductor_X7_at : GoodIn wsX7_makeConductor (wsV RX7 92 RX7 yX7_at wsX7_at) := goodIn_app (goodIn_of _ (by decide +kernel)) ggX7_makeConductor_X7_at
set_option maxRecDepth 20000 in
theorem ggX7_tick_X2_countAt : GoodIn wsX7_tick wsX2_countAt := goodIn_r _ [10, 11, 173, 174, 175] (by decide +kernel) (by decide +kernel)
set_option maxRecDepth 20000 in
theorem gX7_tick_X2_countAt : GoodIn wsX7_tick (wsV RX7 201 RX2 yX2_countAt wsX2_countAt) := goodIn_app (goodIn_of _ (by decide +kernel)) ggX7_tick_X2_countAt
set_option maxRecDepth 20000 in
theorem ggX7_tick_X2_read : GoodIn wsX7_tick wsX2_read := goodIn_r _ [15, 11, 16, 173, 174, 175, 176, 177, 178, 179, 180, 181, 182] (by decide +kernel) (by decide +kernel)
set_option maxRecDepth 20000 in
theorem gX7_tick_X2_read : GoodIn wsX7_tick (wsV RX7 194 RX2 yX2_read wsX2_read) := goodIn_app (goodIn_of _ (by decide +kernel)) ggX7_tick_X2_read
set_option maxRecDepth 20000 in
theorem ggX7_tick_X7_receive : GoodIn wsX7_tick wsX7_receive := goodIn_r _ [21, 3, 22, 23, 4, 24, 25, 26, 20, 27, 28, 29, 30, 31, 32, 5, 1, 33, 34, 35, 36, 37, 38, 39, 40, 41, 42, 43, 44, 45, 2, 46, 47, 48, 49, 50, 51, 52, 53, 54, 55, 56, 57, 58, 59, 60, 61, 62, 9, 63, 64, 11, 16, 65, 66, 67, 68, 69, 70, 71, 72, 73, 74, 75, 76, 77, 78, 79, 80, 81, 82, 83, 84, 85, 86, 87, 88, 89, 90, 91, 141, 142, 143, 144, 145, 146, 147, 148, 149, 150, 151, 152, 153, 154, 155, 156, 176, 177, 178, 179, 180, 181, 182, 183, 184, 185, 186, 187, 188, 189, 190, 191, 192, 157, 158, 159, 160, 161, 162, 163, 164, 165, 166, 167, 168, 169, 170, 171, 172, 173, 174, 175] (by decide +kernel) (by decide +kernel)
set_option maxRecDepth 20000 in
theorem gX7_tick_X7_receive : GoodIn wsX7_tick (wsV RX7 230 RX7 yX7_receive wsX7_receive) := goodIn_app (goodIn_of _ (by decide +kernel)) ggX7_tick_X7_receive
set_option maxRecDepth 20000 in
theorem ggX7_tick_X7_commitIfVoted : GoodIn wsX7_tick wsX7_commitIfVoted := goodIn_r _ [95, 4, 5, 96, 87, 24, 25, 26, 20, 27, 28, 74, 75, 76, 77, 78, 79, 80, 81, 82, 97, 98, 99, 100, 40, 41, 42, 43, 44, 45, 2, 1, 22, 46, 47, 48, 36, 49, 50, 51, 52, 53, 54, 55, 56, 57, 58, 59, 60, 61, 62, 9, 63, 64, 11, 16, 65, 66, 67, 68, 69, 70, 71, 72, 73, 141, 142, 143, 144, 145, 146, 147, 148, 149, 150, 151, 152, 153, 154, 155, 156, 157, 158, 159, 160, 161, 162, 163, 164, 165, 166, 167, 168, 169, 170, 171, 172, 183, 184, 185, 186, 187, 188, 189, 190, 191, 192, 176, 177, 178, 179, 180, 181, 182, 173, 174, 175] (by decide +kernel) (by decide +kernel)
set_option maxRecDepth 20000 in
theorem gX7_tick_X7_commitIfVoted : GoodIn wsX7_tick (wsV RX7 223 RX7 yX7_commitIfVoted wsX7_commitIfVoted) := goodIn_app (goodIn_of _ (by decide +kernel)) ggX7_tick_X7_commitIfVoted
set_option maxRecDepth 20000 in
theorem ggX7_tick_X2_clear : GoodIn wsX7_tick wsX2_clear := goodIn_r _ [104, 64, 11, 173, 174, 175] (by decide +kernel) (by decide +kernel)
set_option maxRecDepth 20000 in
theorem gX7_tick_X2_clear : GoodIn wsX7_tick (wsV RX7 233 RX2 yX2_clear wsX2_clear) := goodIn_app (goodIn_of _ (by decide +kernel)) ggX7_tick_X2_clear
set_option maxRecDepth 20000 in
theorem ggX7_tick_X7_giveUp : GoodIn wsX7_tick wsX7_giveUp := goodIn_r _ [108, 4, 109, 87, 24, 25, 26, 20, 27, 28, 88, 89, 90, 77, 91, 80, 79, 97, 98, 99, 100, 5, 40, 41, 42, 43, 44, 45, 2, 1, 22, 46, 47, 48, 36, 49, 50, 51, 52, 53, 54, 55, 56, 57, 58, 59, 60, 61, 62, 9, 63, 64, 11, 16, 65, 66, 67, 68, 69, 70, 71, 72, 73, 141, 142, 143, 144, 145, 146, 147, 148, 149, 150, 151, 152, 153, 154, 155, 156, 157, 158, 159, 160, 161, 162, 163, 164, 183, 184, 185, 186, 187, 188, 189, 190, 191, 192, 165, 166, 167, 168, 169, 170, 171, 172, 176, 177, 178, 179, 180, 181, 182, 173, 174, 175] (by decide +kernel) (by decide +kernel)
set_option maxRecDepth 20000 in
theorem gX7_tick_X7_giveUp : GoodIn wsX7_tick (wsV RX7 239 RX7 yX7_giveUp wsX7_giveUp) := goodIn_app (goodIn_of _ (by decide +kernel)) ggX7_tick_X7_giveUp
set_option maxRecDepth 20000 in
theorem ggX7_tick_X7_changeIfDue : GoodIn wsX7_tick wsX7_changeIfDue := goodIn_r _ [113, 87, 4, 1, 114, 115, 24, 25, 26, 20, 27, 28, 116, 117, 118, 119, 29, 30, 31, 32, 5, 33, 34, 35, 36, 37, 38, 39, 120, 121, 122, 77, 123, 124, 80, 82, 125, 126, 127, 128, 129, 130, 131, 132, 133, 134, 135, 81, 136, 137, 138, 139, 140, 89, 90, 91, 79, 183, 184, 185, 186, 187, 188, 189, 190, 191, 192, 141, 142, 143, 144, 145, 146, 147, 148, 149, 150, 151, 152, 153, 154, 155, 156, 165, 166, 167, 168, 169, 170, 171, 172, 157, 158, 159, 160, 161, 162, 163, 164] (by decide +kernel) (by decide +kernel)
set_option maxRecDepth 20000 in
theorem gX7_tick_X7_changeIfDue : GoodIn wsX7_tick (wsV RX7 242 RX7 yX7_changeIfDue wsX7_changeIfDue) := goodIn_app (goodIn_of _ (by decide +kernel)) ggX7_tick_X7_changeIfDue
set_option maxRecDepth 20000 in
theorem ggX7_runOn_X7_isBusy : GoodIn wsX7_runOn wsX7_isBusy := goodIn_r _ [7, 8, 2, 9, 10, 11, 12, 6, 13, 14, 149, 150, 151, 152, 153, 154, 155, 156, 157, 158, 159, 160, 161, 162, 163, 164, 173, 174, 175, 165, 166, 167, 168, 169, 170, 171, 172, 176, 177, 178, 179, 180, 181, 182, 183, 184, 185, 186, 187, 188, 189, 190, 191, 192, 193] (by decide +kernel) (by decide +kernel)
set_option maxRecDepth 20000 in
theorem gX7_runOn_X7_isBusy : GoodIn wsX7_runOn (wsV RX7 245 RX7 yX7_isBusy wsX7_isBusy) := goodIn_app (goodIn_of _ (by decide +kernel)) ggX7_runOn_X7_isBusy
set_option maxRecDepth 20000 in
theorem ggX7_runOn_X7_tick : GoodIn wsX7_runOn wsX7_tick := goodIn_r _ [18, 19, 8, 20, 2, 9, 21, 22, 23, 24, 25, 26, 27, 28, 29, 30, 31, 32, 33, 34, 6, 35, 36, 37, 10, 11, 12, 13, 14, 38, 39, 40, 41, 42, 43, 44, 45, 46, 47, 48, 49, 50, 51, 52, 53, 54, 55, 56, 57, 58, 59, 60, 61, 62, 63, 64, 65, 66, 67, 68, 69, 70, 71, 72, 73, 74, 75, 76, 77, 78, 79, 80, 81, 82, 83, 84, 85, 86, 87, 88, 89, 90, 91, 92, 93, 94, 95, 96, 97, 98, 99, 100, 101, 102, 103, 104, 105, 106, 107, 108, 109, 110, 111, 112, 113, 114, 115, 116, 117, 118, 119, 120, 121, 122, 123, 1, 124, 125, 126, 127, 128, 129, 130, 131, 132, 133, 134, 135, 136, 137, 138, 139, 140, 141, 142, 143, 144, 145, 146, 147, 148, 149, 150, 151, 152, 153, 154, 155, 156, 157, 158, 159, 160, 161, 162, 163, 164, 165, 166, 167, 168, 169, 170, 171, 172, 176, 177, 178, 179, 180, 181, 182, 183, 173, 174, 175, 194, 195, 196, 197, 198, 199, 200, 184, 185, 186, 187, 188, 189, 190, 191, 192, 193] (by decide +kernel) (by decide +kernel)
set_option maxRecDepth 20000 in
theorem gX7_runOn_X7_tick : GoodIn wsX7_runOn (wsV RX7 249 RX7 yX7_tick wsX7_tick) := goodIn_app (goodIn_of _ (by decide +kernel)) ggX7_runOn_X7_tick
set_option maxRecDepth 20000 in
theorem ggX7_isBusy_X7_at : GoodIn wsX7_isBusy wsX7_at := goodIn_r _ [8, 9, 10, 11, 12, 13, 14, 15, 16, 17, 18, 19, 20, 21, 22, 23, 24, 25] (by decide +kernel) (by decide +kernel)
set_option maxRecDepth 20000 in
theorem gX7_isBusy_X7_at : GoodIn wsX7_isBusy (wsV RX7 92 RX7 yX7_at wsX7_at) := goodIn_app (goodIn_of _ (by decide +kernel)) ggX7_isBusy_X7_at
set_option maxRecDepth 20000 in
theorem ggX7_receive_X7_at : GoodIn wsX7_receive wsX7_at := goodIn_r _ [9, 10, 80, 81, 82, 83, 84, 85, 86, 87, 88, 89, 90, 91, 92, 93, 94, 95] (by decide +kernel) (by decide +kernel)
set_option maxRecDepth 20000 in
theorem gX7_receive_X7_at : GoodIn wsX7_receive (wsV RX7 92 RX7 yX7_at wsX7_at) := goodIn_app (goodIn_of _ (by decide +kernel)) ggX7_receive_X7_at
set_option maxRecDepth 20000 in
theorem ggX7_receive_X7_clock : GoodIn wsX7_receive wsX7_clock := goodIn_r _ [14, 15, 16, 17, 18, 19, 20, 21, 22, 23, 80, 81, 82, 83, 84, 85, 86, 87, 88, 89, 90, 91, 92, 93, 94, 95, 121, 122, 123, 124, 125, 126, 127, 128] (by decide +kernel) (by decide +kernel)
set_option maxRecDepth 20000 in
theorem gX7_receive_X7_clock : GoodIn wsX7_receive (wsV RX7 110 RX7 yX7_clock wsX7_clock) := goodIn_app (goodIn_of _ (by decide +kernel)) ggX7_receive_X7_clock
set_option maxRecDepth 20000 in
theorem ggX7_receive_X7_send : GoodIn wsX7_receive wsX7_send := goodIn_r _ [27, 28, 29, 15, 30, 16, 2, 31, 32, 33, 20, 34, 35, 36, 37, 38, 39, 40, 41, 8, 42, 43, 44, 45, 46, 47, 48, 49, 50, 51, 52, 53, 54, 55, 56, 57, 58, 59, 60, 61, 80, 81, 82, 83, 84, 85, 86, 87, 88, 89, 90, 91, 92, 93, 94, 95, 96, 97, 98, 99, 100, 101, 102, 121, 122, 123, 124, 125, 126, 127, 128, 129, 130, 131] (by decide +kernel) (by decide +kernel)
set_option maxRecDepth 20000 in
theorem gX7_receive_X7_send : GoodIn wsX7_receive (wsV RX7 226 RX7 yX7_send wsX7_send) := goodIn_app (goodIn_of _ (by decide +kernel)) ggX7_receive_X7_send
set_option maxRecDepth 20000 in
theorem ggX7_receive_X3_takePlan : GoodIn wsX7_receive wsX3_takePlan := goodIn_r _ [66, 67, 68, 69, 70, 103, 104, 105, 106, 107, 108, 109, 110, 111, 112] (by decide +kernel) (by decide +kernel)
set_option maxRecDepth 20000 in
theorem gX7_receive_X3_takePlan : GoodIn wsX7_receive (wsV RX7 217 RX3 yX3_takePlan wsX3_takePlan) := goodIn_app (goodIn_of _ (by decide +kernel)) ggX7_receive_X3_takePlan
set_option maxRecDepth 20000 in
theorem ggX7_receive_X7_isOpen : GoodIn wsX7_receive wsX7_isOpen := goodIn_r _ [74, 4, 75, 80, 81, 82, 83, 84, 85, 86, 87, 88, 89, 90, 91, 92, 93, 94, 95, 113, 114, 115, 116, 117, 118, 119, 120] (by decide +kernel) (by decide +kernel)
set_option maxRecDepth 20000 in
theorem gX7_receive_X7_isOpen : GoodIn wsX7_receive (wsV RX7 270 RX7 yX7_isOpen wsX7_isOpen) := goodIn_app (goodIn_of _ (by decide +kernel)) ggX7_receive_X7_isOpen
set_option maxRecDepth 20000 in
theorem ggX7_receive_X3_dropPlan : GoodIn wsX7_receive wsX3_dropPlan := goodIn_r _ [79, 68, 67, 103, 104, 105, 106, 107, 108, 109, 110, 111, 112] (by decide +kernel) (by decide +kernel)
set_option maxRecDepth 20000 in
theorem gX7_receive_X3_dropPlan : GoodIn wsX7_receive (wsV RX7 279 RX3 yX3_dropPlan wsX3_dropPlan) := goodIn_app (goodIn_of _ (by decide +kernel)) ggX7_receive_X3_dropPlan
set_option maxRecDepth 20000 in
theorem ggX7_commitIfVoted_X7_at : GoodIn wsX7_commitIfVoted wsX7_at := goodIn_r _ [9, 10, 65, 66, 67, 68, 69, 70, 71, 72, 73, 74, 75, 76, 77, 78, 79, 80] (by decide +kernel) (by decide +kernel)
set_option maxRecDepth 20000 in
theorem gX7_commitIfVoted_X7_at : GoodIn wsX7_commitIfVoted (wsV RX7 92 RX7 yX7_at wsX7_at) := goodIn_app (goodIn_of _ (by decide +kernel)) ggX7_commitIfVoted_X7_at
set_option maxRecDepth 20000 in
theorem ggX7_commitIfVoted_X3_takePlan : GoodIn wsX7_commitIfVoted wsX3_takePlan := goodIn_r _ [15, 16, 17, 18, 19, 97, 98, 99, 100, 101, 102, 103, 104, 105, 106] (by decide +kernel) (by decide +kernel)
set_option maxRecDepth 20000 in
theorem gX7_commitIfVoted_X3_takePlan : GoodIn wsX7_commitIfVoted (wsV RX7 217 RX3 yX3_takePlan wsX3_takePlan) := goodIn_app (goodIn_of _ (by decide +kernel)) ggX7_commitIfVoted_X3_takePlan
set_option maxRecDepth 20000 in
theorem ggX7_commitIfVoted_X7_sendToOthers : GoodIn wsX7_commitIfVoted wsX7_sendToOthers := goodIn_r _ [23, 2, 1, 4, 24, 25, 26, 8, 27, 28, 29, 30, 31, 32, 33, 34, 35, 36, 37, 38, 39, 40, 41, 42, 43, 44, 45, 46, 47, 48, 49, 50, 51, 52, 53, 54, 55, 56, 57, 58, 59, 60, 61, 62, 63, 64, 65, 66, 67, 68, 69, 70, 71, 72, 73, 74, 75, 76, 77, 78, 79, 80, 89, 90, 91, 92, 93, 94, 95, 96, 81, 82, 83, 84, 85, 86, 87, 88, 107, 108, 109, 110, 111, 112, 113, 114, 115, 116] (by decide +kernel) (by decide +kernel)
set_option maxRecDepth 20000 in
theorem gX7_commitIfVoted_X7_sendToOthers : GoodIn wsX7_commitIfVoted (wsV RX7 220 RX7 yX7_sendToOthers wsX7_sendToOthers) := goodIn_app (goodIn_of _ (by decide +kernel)) ggX7_commitIfVoted_X7_sendToOthers
set_option maxRecDepth 20000 in
theorem ggX7_giveUp_X7_at : GoodIn wsX7_giveUp wsX7_at := goodIn_r _ [8, 9, 63, 64, 65, 66, 67, 68, 69, 70, 71, 72, 73, 74, 75, 76, 77, 78] (by decide +kernel) (by decide +kernel)
set_option maxRecDepth 20000 in
theorem gX7_giveUp_X7_at : GoodIn wsX7_giveUp (wsV RX7 92 RX7 yX7_at wsX7_at) := goodIn_app (goodIn_of _ (by decide +kernel)) ggX7_giveUp_X7_at
set_option maxRecDepth 20000 in
theorem ggX7_giveUp_X3_dropPlan : GoodIn wsX7_giveUp wsX3_dropPlan := goodIn_r _ [14, 15, 16, 87, 88, 89, 90, 91, 92, 93, 94, 95, 96] (by decide +kernel) (by decide +kernel)
set_option maxRecDepth 20000 in
theorem gX7_giveUp_X3_dropPlan : GoodIn wsX7_giveUp (wsV RX7 279 RX3 yX3_dropPlan wsX3_dropPlan) := goodIn_app (goodIn_of _ (by decide +kernel)) ggX7_giveUp_X3_dropPlan
set_option maxRecDepth 20000 in
theorem ggX7_giveUp_X7_sendToOthers : GoodIn wsX7_giveUp wsX7_sendToOthers := goodIn_r _ [20, 21, 1, 3, 22, 23, 24, 7, 25, 26, 27, 28, 29, 30, 31, 32, 33, 34, 35, 36, 37, 38, 39, 40, 41, 42, 43, 44, 45, 46, 47, 48, 49, 50, 51, 52, 53, 54, 55, 56, 57, 58, 59, 60, 61, 62, 63, 64, 65, 66, 67, 68, 69, 70, 71, 72, 73, 74, 75, 76, 77, 78, 97, 98, 99, 100, 101, 102, 103, 104, 79, 80, 81, 82, 83, 84, 85, 86, 105, 106, 107, 108, 109, 110, 111, 112, 113, 114] (by decide +kernel) (by decide +kernel)
set_option maxRecDepth 20000 in
theorem gX7_giveUp_X7_sendToOthers : GoodIn wsX7_giveUp (wsV RX7 220 RX7 yX7_sendToOthers wsX7_sendToOthers) := goodIn_app (goodIn_of _ (by decide +kernel)) ggX7_giveUp_X7_sendToOthers
set_option maxRecDepth 20000 in
theorem ggX7_changeIfDue_X7_at : GoodIn wsX7_changeIfDue wsX7_at := goodIn_r _ [10, 11, 67, 68, 69, 70, 71, 72, 73, 74, 75, 76, 77, 78, 79, 80, 81, 82] (by decide +kernel) (by decide +kernel)
set_option maxRecDepth 20000 in
theorem gX7_changeIfDue_X7_at : GoodIn wsX7_changeIfDue (wsV RX7 92 RX7 yX7_at wsX7_at) := goodIn_app (goodIn_of _ (by decide +kernel)) ggX7_changeIfDue_X7_at
set_option maxRecDepth 20000 in
theorem ggX7_changeIfDue_X7_estimate : GoodIn wsX7_changeIfDue wsX7_estimate := goodIn_r _ [15, 16, 17, 18, 9, 19, 20, 3, 21, 22, 23, 24, 25, 26, 27, 6, 7, 8, 10, 11, 57, 58, 59, 60, 61, 62, 63, 64, 65, 66, 67, 68, 69, 70, 71, 72, 73, 74, 75, 76, 77, 78, 79, 80, 81, 82, 83, 84, 85, 86, 87, 88, 89, 90] (by decide +kernel) (by decide +kernel)
set_option maxRecDepth 20000 in
theorem gX7_changeIfDue_X7_estimate : GoodIn wsX7_changeIfDue (wsV RX7 116 RX7 yX7_estimate wsX7_estimate) := goodIn_app (goodIn_of _ (by decide +kernel)) ggX7_changeIfDue_X7_estimate
set_option maxRecDepth 20000 in
theorem ggX7_changeIfDue_X3_canChange : GoodIn wsX7_changeIfDue wsX3_canChange := goodIn_r _ [32, 33, 34, 35, 57, 58, 59, 60, 61, 62, 63, 64, 65, 66] (by decide +kernel) (by decide +kernel)
set_option maxRecDepth 20000 in
theorem gX7_changeIfDue_X3_canChange : GoodIn wsX7_changeIfDue (wsV RX7 286 RX3 yX3_canChange wsX3_canChange) := goodIn_app (goodIn_of _ (by decide +kernel)) ggX7_changeIfDue_X3_canChange
