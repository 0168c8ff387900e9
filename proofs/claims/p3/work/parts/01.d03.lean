set_option maxRecDepth 20000 in
theorem ggX7_changeIfDue_X4_noteChange : GoodIn wsX7_changeIfDue wsX4_noteChange := goodIn_r _ [40, 41, 42, 91, 92, 93, 94, 95, 96, 97, 98] (by decide +kernel) (by decide +kernel)
set_option maxRecDepth 20000 in
theorem gX7_changeIfDue_X4_noteChange : GoodIn wsX7_changeIfDue (wsV RX7 292 RX4 yX4_noteChange wsX4_noteChange) := goodIn_app (goodIn_of _ (by decide +kernel)) ggX7_changeIfDue_X4_noteChange
set_option maxRecDepth 20000 in
theorem ggX7_changeIfDue_X3_change : GoodIn wsX7_changeIfDue wsX3_change := goodIn_r _ [46, 47, 48, 49, 50, 51, 52, 53, 54, 31, 55, 34, 56, 57, 58, 59, 60, 61, 62, 63, 64, 65, 66] (by decide +kernel) (by decide +kernel)
set_option maxRecDepth 20000 in
theorem gX7_changeIfDue_X3_change : GoodIn wsX7_changeIfDue (wsV RX7 295 RX3 yX3_change wsX3_change) := goodIn_app (goodIn_of _ (by decide +kernel)) ggX7_changeIfDue_X3_change
set_option maxRecDepth 20000 in
theorem ggX7_sendToOthers_X7_send : GoodIn wsX7_sendToOthers wsX7_send := goodIn_r _ [8, 9, 10, 1, 11, 12, 13, 14, 15, 16, 17, 18, 19, 20, 21, 22, 23, 24, 25, 7, 26, 27, 28, 29, 30, 31, 32, 33, 34, 35, 36, 37, 38, 39, 40, 41, 42, 43, 44, 45, 46, 47, 48, 49, 50, 51, 52, 53, 54, 55, 56, 57, 58, 59, 60, 61, 78, 79, 80, 81, 82, 83, 84, 62, 63, 64, 65, 66, 67, 68, 69, 85, 86, 87] (by decide +kernel) (by decide +kernel)
set_option maxRecDepth 20000 in
theorem gX7_sendToOthers_X7_send : GoodIn wsX7_sendToOthers (wsV RX7 226 RX7 yX7_send wsX7_send) := goodIn_app (goodIn_of _ (by decide +kernel)) ggX7_sendToOthers_X7_send
set_option maxRecDepth 20000 in
theorem ggX7_send_X6_delayOf : GoodIn wsX7_send wsX6_delayOf := goodIn_r _ [11, 12, 13, 14, 10, 15, 63, 64, 65, 66, 67, 68, 69, 70] (by decide +kernel) (by decide +kernel)
set_option maxRecDepth 20000 in
theorem gX7_send_X6_delayOf : GoodIn wsX7_send (wsV RX7 119 RX6 yX6_delayOf wsX6_delayOf) := goodIn_app (goodIn_of _ (by decide +kernel)) ggX7_send_X6_delayOf
set_option maxRecDepth 20000 in
theorem ggX7_send_X7_isCut : GoodIn wsX7_send wsX7_isCut := goodIn_r _ [20, 21, 22, 14, 10, 15, 40, 41, 42, 43, 44, 45, 46, 47, 48, 49, 50, 51, 52, 53, 54, 55] (by decide +kernel) (by decide +kernel)
set_option maxRecDepth 20000 in
theorem gX7_send_X7_isCut : GoodIn wsX7_send (wsV RX7 140 RX7 yX7_isCut wsX7_isCut) := goodIn_app (goodIn_of _ (by decide +kernel)) ggX7_send_X7_isCut
set_option maxRecDepth 20000 in
theorem ggX7_send_X2_add : GoodIn wsX7_send wsX2_add := goodIn_r _ [27, 28, 29, 30, 31, 32, 33, 34, 35, 36, 37, 38, 39, 71, 72, 73, 56, 57, 58, 59, 60, 61, 62] (by decide +kernel) (by decide +kernel)
set_option maxRecDepth 20000 in
theorem gX7_send_X2_add : GoodIn wsX7_send (wsV RX7 302 RX2 yX2_add wsX2_add) := goodIn_app (goodIn_of _ (by decide +kernel)) ggX7_send_X2_add
set_option maxRecDepth 20000 in
theorem ggX8_init_X5_init : GoodIn wsX8_init wsX5_init := goodIn_r _ [16, 17, 2, 3, 18, 19, 20, 21, 123, 124, 125, 126, 127, 128, 129, 130, 131, 132, 133, 134, 135, 136] (by decide +kernel) (by decide +kernel)
set_option maxRecDepth 20000 in
theorem gX8_init_X5_init_n9 : GoodIn wsX8_init (wsX5_init) := ggX8_init_X5_init
set_option maxRecDepth 20000 in
theorem ggX8_init_X7_init : GoodIn wsX8_init wsX7_init := goodIn_r _ [24, 25, 2, 3, 26, 27, 28, 29, 30, 31, 32, 33, 34, 35, 36, 37, 38, 39, 40, 41, 42, 43, 44, 45, 46, 47, 48, 49, 20, 50, 51, 52, 53, 54, 55, 56, 57, 58, 59, 60, 61, 62, 63, 64, 65, 66, 67, 68, 69, 70, 71, 72, 73, 74, 75, 76, 77, 78, 79, 10, 80, 81, 82, 83, 84, 85, 86, 87, 88, 89, 90, 91, 92, 93, 94, 95, 96, 97, 98, 99, 100, 101, 102, 103, 104, 105, 106, 107, 108, 109, 110, 111, 112, 113, 114, 115, 116, 117, 118, 119, 120, 121, 122, 144, 145, 146, 147, 148, 149, 150, 151, 152, 153, 154, 155, 156, 157, 158, 159, 160, 161, 162, 163, 164, 165, 166, 167, 168, 169, 170, 171, 172, 173, 174, 175, 176, 177, 178, 179, 180, 181, 182, 183, 184, 185, 186, 187, 188, 189, 190, 191, 192, 193, 194, 195] (by decide +kernel) (by decide +kernel)
set_option maxRecDepth 20000 in
theorem gX8_init_X7_init : GoodIn wsX8_init (wsX7_init) := ggX8_init_X7_init
set_option maxRecDepth 20000 in
theorem ggX8_append_X5_hasRoomFor : GoodIn wsX8_append wsX5_hasRoomFor := goodIn_r _ [6, 7, 8, 20, 21, 22, 23, 24, 25, 26, 27, 28, 29, 30, 31, 32, 33] (by decide +kernel) (by decide +kernel)
set_option maxRecDepth 20000 in
theorem gX8_append_X5_hasRoomFor : GoodIn wsX8_append (wsV RX8 34 RX5 yX5_hasRoomFor wsX5_hasRoomFor) := goodIn_app (goodIn_of _ (by decide +kernel)) ggX8_append_X5_hasRoomFor
set_option maxRecDepth 20000 in
theorem ggX8_append_X5_store : GoodIn wsX8_append wsX5_store := goodIn_r _ [12, 7, 8, 20, 21, 22, 23, 24, 25, 26, 27, 28, 29, 30, 31, 32, 33] (by decide +kernel) (by decide +kernel)
set_option maxRecDepth 20000 in
theorem gX8_append_X5_store : GoodIn wsX8_append (wsV RX8 38 RX5 yX5_store wsX5_store) := goodIn_app (goodIn_of _ (by decide +kernel)) ggX8_append_X5_store
set_option maxRecDepth 20000 in
theorem ggX8_load_X5_read : GoodIn wsX8_load wsX5_read := goodIn_r _ [10, 11, 12, 13, 14, 15, 16, 17, 18, 19, 20, 21, 22, 23, 24, 25, 26, 27, 28, 29, 30, 31, 32, 9, 33, 34, 35, 36, 37, 38, 39, 40, 41, 42, 43, 44, 45, 46, 47, 48, 49, 50, 51, 52, 53, 54, 55, 56, 57, 58, 59, 60, 61, 62, 63, 64, 65, 66, 67, 68, 69, 70, 71, 72, 73, 74, 75, 76, 77, 78, 79, 80, 81, 82, 83, 84, 85, 86, 87, 88, 89, 90, 91, 92, 93, 94, 95, 96, 97, 98, 99, 100, 101, 102, 103, 104, 105, 106, 107, 108, 109, 110, 111, 112, 113, 114, 115, 116, 117, 118, 119, 120, 121, 122, 123, 124, 125, 126, 127, 128, 129, 130, 131, 132, 133, 134, 135, 136, 137, 138, 139, 140, 141, 142, 143, 144, 145, 146, 147, 148, 149, 150, 151, 152, 153, 154, 155, 156, 157, 158, 159, 160, 161, 162, 163, 164, 165, 166, 167, 168, 169, 170, 171, 172, 173, 174, 175, 176, 177, 178, 179, 180, 181, 182, 183, 184, 185, 186, 187, 188, 189, 190, 191, 192, 193, 194, 195, 196, 197, 198, 199, 200, 201, 202, 203, 204, 205, 206, 207, 208, 209, 210, 211, 212, 213, 214, 215, 216, 217, 218, 318, 319, 320, 321, 322, 323, 324, 325, 326, 327, 328, 329, 330, 331, 332, 333, 334, 335, 336, 337, 338, 339, 340, 341] (by decide +kernel) (by decide +kernel)
set_option maxRecDepth 20000 in
theorem gX8_load_X5_read : GoodIn wsX8_load (wsV RX8 52 RX5 yX5_read wsX5_read) := goodIn_app (goodIn_of _ (by decide +kernel)) ggX8_load_X5_read
set_option maxRecDepth 20000 in
theorem ggX8_load_X8_keepForUndo : GoodIn wsX8_load wsX8_keepForUndo := goodIn_r _ [223, 224, 225, 5, 226, 227, 228, 229, 230, 231, 232, 233, 234, 235, 236, 237, 238, 239, 240, 241, 242, 243, 244, 245, 246, 247, 248, 249, 250, 251, 252, 253, 254, 255, 256, 257, 258, 259, 260, 261, 262, 263, 264, 265, 266, 267, 268, 269, 270, 271, 272, 13, 14, 15, 112, 273, 210, 211, 212, 274, 275, 276, 277, 278, 279, 280, 281, 282, 283, 284, 285, 286, 287, 311, 312, 313, 314, 315, 316, 317, 342, 343, 344, 345, 346, 347, 348, 349, 350, 351, 352, 353, 354, 355, 356, 357, 358, 359, 360, 361, 362, 363, 364, 365, 366, 367, 368, 369, 370, 371, 372, 373, 374, 375, 376, 377, 378] (by decide +kernel) (by decide +kernel)
set_option maxRecDepth 20000 in
theorem gX8_load_X8_keepForUndo : GoodIn wsX8_load (wsV RX8 62 RX8 yX8_keepForUndo wsX8_keepForUndo) := goodIn_app (goodIn_of _ (by decide +kernel)) ggX8_load_X8_keepForUndo
set_option maxRecDepth 20000 in
theorem ggX8_load_X7_begin : GoodIn wsX8_load wsX7_begin := goodIn_r _ [291, 232, 233, 234, 235, 236, 237, 238, 239, 240, 241, 242, 243, 244, 245, 292, 293, 294, 253, 295, 255, 256, 257, 262, 263, 264, 296, 297, 298, 299, 258, 259, 300, 301, 302, 268, 303, 271, 274, 304, 305, 200, 306, 307, 308, 309, 278, 310, 285, 286, 342, 343, 344, 345, 346, 347, 348, 349, 350, 351, 352, 353, 354, 355, 356, 357, 358, 359, 360, 361, 362, 363, 364, 365, 366, 367, 368, 369, 370, 371, 372, 373, 374, 375, 376, 377, 378] (by decide +kernel) (by decide +kernel)
set_option maxRecDepth 20000 in
theorem gX8_load_X7_begin : GoodIn wsX8_load (wsV RX8 65 RX7 yX7_begin wsX7_begin) := goodIn_app (goodIn_of _ (by decide +kernel)) ggX8_load_X7_begin
set_option maxRecDepth 20000 in
theorem ggX8_state_X8_refuseWhatOutside : GoodIn wsX8_state wsX8_refuseWhatOutside := goodIn_ca (goodIn_r _ [6, 7, 8] (by decide +kernel) (by decide +kernel)) (goodIn_sub (fun _ h => List.mem_cons_of_mem _ (List.mem_append_right _ h)) (by decide +kernel))
set_option maxRecDepth 20000 in
theorem gX8_state_X8_refuseWhatOutside : GoodIn wsX8_state (wsV RX8 74 RX8 yX8_refuseWhatOutside wsX8_refuseWhatOutside) := goodIn_app (goodIn_of _ (by decide +kernel)) ggX8_state_X8_refuseWhatOutside
set_option maxRecDepth 20000 in
theorem ggX8_state_X7_count : GoodIn wsX8_state wsX7_count := goodIn_r _ [13, 14, 15, 16, 17, 18, 19, 20, 21, 22, 23, 24, 25, 26, 27, 12, 28, 29, 30, 31, 32, 33, 34, 35, 36, 37, 38, 39, 40, 41, 42, 43, 44, 45, 46, 47, 48, 49, 50, 51, 52, 53, 54, 55, 56, 57, 58, 59, 60, 61, 62, 63, 64, 65, 66, 67, 68, 69, 70, 71, 72, 73, 74, 75, 76, 77, 78, 79, 80, 81, 82, 83, 84, 85, 86, 87, 88, 89, 90, 91, 92, 93, 94, 95, 96, 104, 105, 106, 107, 108, 109, 110, 111, 112, 113, 114, 115, 116, 117, 118, 119, 120, 121, 122, 123, 124, 125, 126, 127, 128, 129, 130, 131, 132, 133, 134, 135, 136, 137, 138, 139, 140, 141, 142] (by decide +kernel) (by decide +kernel)
set_option maxRecDepth 20000 in
theorem gX8_state_X7_count : GoodIn wsX8_state (wsV RX8 78 RX7 yX7_count wsX7_count) := goodIn_app (goodIn_of _ (by decide +kernel)) ggX8_state_X7_count
set_option maxRecDepth 20000 in
theorem ggX8_player_X8_refuseNoPlayer : GoodIn wsX8_player wsX8_refuseNoPlayer := goodIn_ca (goodIn_r _ [6, 7, 8, 1, 47, 48, 49, 50, 51, 52, 53, 54, 55, 56, 57, 58, 59, 60, 61, 62, 63, 64, 65, 66, 67, 68, 69, 70, 71, 72, 73, 74, 75, 76, 77] (by decide +kernel) (by decide +kernel)) (goodIn_sub (fun _ h => List.mem_cons_of_mem _ (List.mem_append_left _ (List.mem_append_right _ h))) (by decide +kernel))
set_option maxRecDepth 20000 in
theorem gX8_player_X8_refuseNoPlayer : GoodIn wsX8_player (wsV RX8 82 RX8 yX8_refuseNoPlayer wsX8_refuseNoPlayer) := goodIn_app (goodIn_of _ (by decide +kernel)) ggX8_player_X8_refuseNoPlayer
set_option maxRecDepth 20000 in
theorem ggX8_player_X8_refuseWhatOutside : GoodIn wsX8_player wsX8_refuseWhatOutside := goodIn_ca (goodIn_r _ [12, 13, 14] (by decide +kernel) (by decide +kernel)) (goodIn_sub (fun _ h => List.mem_cons_of_mem _ (List.mem_append_right _ h)) (by decide +kernel))
set_option maxRecDepth 20000 in
theorem gX8_player_X8_refuseWhatOutside : GoodIn wsX8_player (wsV RX8 74 RX8 yX8_refuseWhatOutside wsX8_refuseWhatOutside) := goodIn_app (goodIn_of _ (by decide +kernel)) ggX8_player_X8_refuseWhatOutside
set_option maxRecDepth 20000 in
theorem ggX8_player_X7_tellPlayer : GoodIn wsX8_player wsX7_tellPlayer := goodIn_r _ [19, 20, 21, 22, 18, 23, 24, 25, 26, 27, 28, 29, 30, 31, 32, 33, 34, 35, 36, 37, 38, 39, 40, 41, 42, 43, 44, 45, 46, 78, 79, 80, 81, 82, 83, 84, 85, 86, 87, 54, 55, 56, 57, 58, 59, 60, 61, 62, 63, 64, 65, 66, 67, 68, 69, 70, 71, 72, 73, 74, 75, 76, 77] (by decide +kernel) (by decide +kernel)
set_option maxRecDepth 20000 in
theorem gX8_player_X7_tellPlayer : GoodIn wsX8_player (wsV RX8 85 RX7 yX7_tellPlayer wsX7_tellPlayer) := goodIn_app (goodIn_of _ (by decide +kernel)) ggX8_player_X7_tellPlayer
set_option maxRecDepth 20000 in
theorem ggX8_link_X8_refuseNoPlayer : GoodIn wsX8_link wsX8_refuseNoPlayer := goodIn_ca (goodIn_r _ [6, 7, 8, 1, 30, 31, 32, 33, 34, 35, 36, 37, 38, 39, 40, 41, 42, 43, 44, 45, 46, 47, 48, 49, 50, 51, 52, 53, 54, 55, 56, 57, 58, 59, 60] (by decide +kernel) (by decide +kernel)) (goodIn_sub (fun _ h => List.mem_cons_of_mem _ (List.mem_append_right _ h)) (by decide +kernel))
set_option maxRecDepth 20000 in
theorem gX8_link_X8_refuseNoPlayer : GoodIn wsX8_link (wsV RX8 82 RX8 yX8_refuseNoPlayer wsX8_refuseNoPlayer) := goodIn_app (goodIn_of _ (by decide +kernel)) ggX8_link_X8_refuseNoPlayer
set_option maxRecDepth 20000 in
theorem ggX8_link_X7_isCut : GoodIn wsX8_link wsX7_isCut := goodIn_r _ [13, 14, 15, 16, 17, 18, 37, 38, 39, 40, 41, 42, 43, 44, 45, 46, 47, 48, 49, 50, 51, 52] (by decide +kernel) (by decide +kernel)
set_option maxRecDepth 20000 in
theorem gX8_link_X7_isCut : GoodIn wsX8_link (wsV RX8 89 RX7 yX7_isCut wsX7_isCut) := goodIn_app (goodIn_of _ (by decide +kernel)) ggX8_link_X7_isCut
set_option maxRecDepth 20000 in
theorem ggX8_link_X7_delay : GoodIn wsX8_link wsX7_delay := goodIn_r _ [22, 23, 24, 25, 26, 17, 27, 28, 29, 16, 18, 37, 38, 39, 40, 41, 42, 43, 44, 45, 46, 47, 48, 49, 50, 51, 52, 53, 54, 55, 56, 57, 58, 59, 60] (by decide +kernel) (by decide +kernel)
set_option maxRecDepth 20000 in
theorem gX8_link_X7_delay : GoodIn wsX8_link (wsV RX8 93 RX7 yX7_delay wsX7_delay) := goodIn_app (goodIn_of _ (by decide +kernel)) ggX8_link_X7_delay
set_option maxRecDepth 20000 in
theorem ggX8_message_X8_refuseWhatOutside : GoodIn wsX8_message wsX8_refuseWhatOutside := goodIn_ca (goodIn_r _ [8, 9, 10] (by decide +kernel) (by decide +kernel)) (goodIn_sub (fun _ h => List.mem_cons_of_mem _ (List.mem_append_right _ h)) (by decide +kernel))
set_option maxRecDepth 20000 in
theorem gX8_message_X8_refuseWhatOutside : GoodIn wsX8_message (wsV RX8 74 RX8 yX8_refuseWhatOutside wsX8_refuseWhatOutside) := goodIn_app (goodIn_of _ (by decide +kernel)) ggX8_message_X8_refuseWhatOutside
set_option maxRecDepth 20000 in
theorem ggX8_message_X7_tellMessage : GoodIn wsX8_message wsX7_tellMessage := goodIn_r _ [15, 16, 17, 18, 19, 20, 21, 22, 23, 24, 25, 26, 27, 28, 29, 30, 31, 32, 33, 34, 35, 36, 37, 38, 39, 47, 48, 49, 50, 51, 52, 53, 54, 55, 56, 57, 58, 59, 60, 61, 62, 63, 64, 65, 66, 67, 68, 69, 70, 71, 72] (by decide +kernel) (by decide +kernel)
set_option maxRecDepth 20000 in
theorem gX8_message_X7_tellMessage : GoodIn wsX8_message (wsV RX8 110 RX7 yX7_tellMessage wsX7_tellMessage) := goodIn_app (goodIn_of _ (by decide +kernel)) ggX8_message_X7_tellMessage
set_option maxRecDepth 20000 in
theorem ggX8_proposal_X8_refuseWhatOutside : GoodIn wsX8_proposal wsX8_refuseWhatOutside := goodIn_ca (goodIn_r _ [8, 9, 10] (by decide +kernel) (by decide +kernel)) (goodIn_sub (fun _ h => List.mem_cons_of_mem _ (List.mem_append_right _ h)) (by decide +kernel))
set_option maxRecDepth 20000 in
theorem gX8_proposal_X8_refuseWhatOutside : GoodIn wsX8_proposal (wsV RX8 74 RX8 yX8_refuseWhatOutside wsX8_refuseWhatOutside) := goodIn_app (goodIn_of _ (by decide +kernel)) ggX8_proposal_X8_refuseWhatOutside
set_option maxRecDepth 20000 in
theorem ggX8_proposal_X4_tell : GoodIn wsX8_proposal wsX4_tell := goodIn_r _ [15, 16, 17, 18, 19, 20, 21, 45, 46, 47, 48, 49, 50, 51, 52] (by decide +kernel) (by decide +kernel)
set_option maxRecDepth 20000 in
theorem gX8_proposal_X4_tell : GoodIn wsX8_proposal (wsV RX8 122 RX4 yX4_tell wsX4_tell) := goodIn_app (goodIn_of _ (by decide +kernel)) ggX8_proposal_X4_tell
set_option maxRecDepth 20000 in
theorem ggX8_spread_X4_spreadOfChanges : GoodIn wsX8_spread wsX4_spreadOfChanges := goodIn_r _ [6, 7, 8, 32, 33, 34, 35, 36, 37, 38, 39] (by decide +kernel) (by decide +kernel)
set_option maxRecDepth 20000 in
theorem gX8_spread_X4_spreadOfChanges : GoodIn wsX8_spread (wsV RX8 127 RX4 yX4_spreadOfChanges wsX4_spreadOfChanges) := goodIn_app (goodIn_of _ (by decide +kernel)) ggX8_spread_X4_spreadOfChanges
set_option maxRecDepth 20000 in
theorem ggX8_foretold_X8_refuseWhatOutside : GoodIn wsX8_foretold wsX8_refuseWhatOutside := goodIn_ca (goodIn_r _ [7, 8, 9] (by decide +kernel) (by decide +kernel)) (goodIn_sub (fun _ h => List.mem_cons_of_mem _ (List.mem_append_right _ h)) (by decide +kernel))
set_option maxRecDepth 20000 in
theorem gX8_foretold_X8_refuseWhatOutside : GoodIn wsX8_foretold (wsV RX8 74 RX8 yX8_refuseWhatOutside wsX8_refuseWhatOutside) := goodIn_app (goodIn_of _ (by decide +kernel)) ggX8_foretold_X8_refuseWhatOutside
set_option maxRecDepth 20000 in
theorem ggX8_foretold_X7_copyFrom : GoodIn wsX8_foretold wsX7_copyFrom := goodIn_r _ [14, 15, 16, 17, 18, 19, 20, 21, 22, 23, 24, 25, 26, 27, 28, 29, 30, 31, 13, 32, 33, 34, 35, 36, 37, 38, 39, 40, 41, 42, 43, 44, 45, 46, 47, 48, 49, 50, 51, 52, 53, 54, 55, 56, 57, 58, 59, 60, 61, 62, 63, 64, 65, 66, 67, 68, 69, 70, 71, 72, 73, 74, 75, 76, 77, 204, 205, 206, 207, 208, 209, 210, 211, 212, 213, 214, 215, 216, 217, 218, 219, 228, 229, 230, 231, 232, 233, 234, 235, 236, 237, 238, 239, 240, 220, 221, 222, 223, 224, 225, 226, 227] (by decide +kernel) (by decide +kernel)
set_option maxRecDepth 20000 in
theorem gX8_foretold_X7_copyFrom : GoodIn wsX8_foretold (wsV RX8 131 RX7 yX7_copyFrom wsX7_copyFrom) := goodIn_app (goodIn_of _ (by decide +kernel)) ggX8_foretold_X7_copyFrom
set_option maxRecDepth 20000 in
theorem ggX8_foretold_X7_runOn : GoodIn wsX8_foretold wsX7_runOn := goodIn_r _ [81, 28, 18, 82, 83, 84, 13, 85, 17, 15, 29, 30, 31, 32, 16, 86, 87, 88, 89, 20, 90, 91, 92, 93, 51, 94, 54, 95, 96, 97, 98, 53, 99, 100, 101, 102, 23, 21, 103, 104, 105, 106, 107, 108, 109, 110, 111, 112, 113, 114, 115, 116, 117, 118, 22, 119, 120, 121, 122, 123, 124, 125, 126, 127, 128, 129, 130, 19, 131, 132, 133, 134, 135, 64, 59, 55, 56, 57, 58, 60, 61, 62, 63, 136, 137, 138, 36, 139, 42, 41, 43, 44, 140, 141, 142, 143, 24, 144, 145, 146, 147, 148, 149, 150, 151, 25, 152, 153, 154, 155, 156, 157, 158, 159, 160, 161, 162, 163, 26, 164, 165, 166, 167, 27, 168, 169, 170, 171, 172, 173, 174, 175, 38, 176, 177, 178, 68, 179, 76, 77, 180, 181, 182, 183, 40, 45, 46, 47, 184, 204, 205, 206, 207, 208, 209, 210, 211, 212, 213, 214, 215, 216, 217, 218, 219, 220, 221, 222, 223, 224, 225, 226, 227, 238, 239, 240, 241, 242, 243, 244, 245, 246, 247, 248, 228, 229, 230, 231, 232, 233, 234, 235, 236, 237, 249, 250, 251, 252, 253, 254, 255] (by decide +kernel) (by decide +kernel)
set_option maxRecDepth 20000 in
theorem gX8_foretold_X7_runOn : GoodIn wsX8_foretold (wsV RX8 135 RX7 yX7_runOn wsX7_runOn) := goodIn_app (goodIn_of _ (by decide +kernel)) ggX8_foretold_X7_runOn
set_option maxRecDepth 20000 in
theorem ggX8_foretold_X4_spreadOfChanges : GoodIn wsX8_foretold wsX4_spreadOfChanges := goodIn_r _ [188, 76, 77, 220, 221, 222, 223, 224, 225, 226, 227] (by decide +kernel) (by decide +kernel)
set_option maxRecDepth 20000 in
theorem gX8_foretold_X4_spreadOfChanges : GoodIn wsX8_foretold (wsV RX8 127 RX4 yX4_spreadOfChanges wsX4_spreadOfChanges) := goodIn_app (goodIn_of _ (by decide +kernel)) ggX8_foretold_X4_spreadOfChanges
set_option maxRecDepth 20000 in
theorem ggX8_foretold_X7_countSongs : GoodIn wsX8_foretold wsX7_countSongs := goodIn_r _ [192, 15, 29, 30, 31, 13, 32, 16, 193, 194, 195, 196, 204, 205, 206, 207, 208, 209, 210, 211, 212, 213, 214, 215, 216, 217, 218, 219, 241, 242, 243, 244, 245, 246, 247, 248, 228, 229, 230, 231, 232, 233, 234, 235, 236, 237] (by decide +kernel) (by decide +kernel)
set_option maxRecDepth 20000 in
theorem gX8_foretold_X7_countSongs : GoodIn wsX8_foretold (wsV RX8 142 RX7 yX7_countSongs wsX7_countSongs) := goodIn_app (goodIn_of _ (by decide +kernel)) ggX8_foretold_X7_countSongs
set_option maxRecDepth 20000 in
theorem ggX8_safest_X7_canPropose : GoodIn wsX8_safest wsX7_canPropose := goodIn_r _ [7, 8, 9, 10, 11, 12, 6, 13, 14, 197, 198, 199, 200, 201, 202, 203, 204, 205, 206, 207, 208, 209, 210, 211, 212, 221, 222, 223, 224, 225, 226, 227, 228, 229, 230, 213, 214, 215, 216, 217, 218, 219, 220] (by decide +kernel) (by decide +kernel)
set_option maxRecDepth 20000 in
theorem gX8_safest_X7_canPropose : GoodIn wsX8_safest (wsV RX8 148 RX7 yX7_canPropose wsX7_canPropose) := goodIn_app (goodIn_of _ (by decide +kernel)) ggX8_safest_X7_canPropose
set_option maxRecDepth 20000 in
theorem ggX8_safest_X7_copyFrom : GoodIn wsX8_safest wsX7_copyFrom := goodIn_r _ [18, 19, 14, 20, 9, 21, 22, 8, 23, 24, 25, 26, 27, 28, 29, 10, 11, 12, 6, 13, 30, 31, 32, 33, 34, 35, 36, 37, 38, 39, 40, 41, 42, 43, 44, 45, 46, 47, 48, 49, 50, 51, 52, 53, 54, 55, 56, 57, 58, 59, 60, 61, 62, 63, 64, 65, 66, 67, 68, 69, 70, 71, 72, 73, 74, 197, 198, 199, 200, 201, 202, 203, 204, 205, 206, 207, 208, 209, 210, 211, 212, 221, 222, 223, 224, 225, 226, 227, 228, 229, 230, 231, 232, 233, 213, 214, 215, 216, 217, 218, 219, 220] (by decide +kernel) (by decide +kernel)
set_option maxRecDepth 20000 in
theorem gX8_safest_X7_copyFrom : GoodIn wsX8_safest (wsV RX8 131 RX7 yX7_copyFrom wsX7_copyFrom) := goodIn_app (goodIn_of _ (by decide +kernel)) ggX8_safest_X7_copyFrom
set_option maxRecDepth 20000 in
theorem ggX8_safest_X7_startProposal : GoodIn wsX8_safest wsX7_startProposal := goodIn_r _ [78, 9, 8, 22, 19, 25, 79, 80, 81, 6, 82, 83, 84, 85, 86, 87, 88, 89, 90, 91, 92, 65, 93, 67, 68, 69, 70, 71, 72, 73, 10, 11, 12, 13, 14, 94, 95, 96, 33, 97, 39, 38, 40, 41, 98, 99, 100, 101, 102, 103, 104, 105, 106, 23, 20, 24, 107, 108, 109, 110, 111, 112, 113, 114, 115, 116, 117, 118, 21, 119, 120, 121, 122, 48, 123, 61, 51, 50, 56, 52, 53, 54, 55, 57, 58, 59, 60, 124, 125, 126, 127, 26, 197, 198, 199, 200, 201, 202, 203, 204, 205, 206, 207, 208, 209, 210, 211, 212, 234, 235, 236, 237, 238, 239, 240, 241, 213, 214, 215, 216, 217, 218, 219, 220, 221, 222, 223, 224, 225, 226, 227, 228, 229, 230, 242, 243, 244, 245, 246, 247, 248, 231, 232, 233] (by decide +kernel) (by decide +kernel)
set_option maxRecDepth 20000 in
theorem gX8_safest_X7_startProposal : GoodIn wsX8_safest (wsV RX8 152 RX7 yX7_startProposal wsX7_startProposal) := goodIn_app (goodIn_of _ (by decide +kernel)) ggX8_safest_X7_startProposal
