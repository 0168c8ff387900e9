set_option maxRecDepth 20000 in
theorem ggX0_init_J7_copyOf_59c91 : GoodIn wsX0_init wsJ7_copyOf_59c91 := goodIn_r _ [10, 11, 12, 13, 14, 15, 16, 4, 17, 18, 19, 20, 21, 22, 23, 24] (by decide +kernel) (by decide +kernel)
set_option maxRecDepth 20000 in
theorem gX0_init_J7_copyOf_59c91 : GoodIn wsX0_init (va_wsS RX0 13 yJ7_copyOf_59c91 wsJ7_copyOf_59c91) := goodIn_app (goodIn_of _ (by decide +kernel)) ggX0_init_J7_copyOf_59c91
set_option maxRecDepth 20000 in
theorem ggX0_value_X0_limited : GoodIn wsX0_value wsX0_limited := goodIn_r _ [6, 7, 8, 9, 10, 11, 12, 13, 14, 15] (by decide +kernel) (by decide +kernel)
set_option maxRecDepth 20000 in
theorem gX0_value_X0_limited : GoodIn wsX0_value (va_wsS RX0 22 yX0_limited wsX0_limited) := goodIn_app (goodIn_of _ (by decide +kernel)) ggX0_value_X0_limited
set_option maxRecDepth 20000 in
theorem ggX0_value_X0_operand : GoodIn wsX0_value wsX0_operand := goodIn_r _ [18] (by decide +kernel) (by decide +kernel)
set_option maxRecDepth 20000 in
theorem gX0_value_X0_operand : GoodIn wsX0_value (va_wsS RX0 26 yX0_operand wsX0_operand) := goodIn_app (goodIn_of _ (by decide +kernel)) ggX0_value_X0_operand
set_option maxRecDepth 20000 in
theorem ggX2_begin_J7_fill_53178 : GoodIn wsX2_begin wsJ7_fill_53178 := goodIn_r _ [6] (by decide +kernel) (by decide +kernel)
set_option maxRecDepth 20000 in
theorem gX2_begin_J7_fill_53178 : GoodIn wsX2_begin (va_wsS RX2 18 yJ7_fill_53178 wsJ7_fill_53178) := goodIn_app (goodIn_of _ (by decide +kernel)) ggX2_begin_J7_fill_53178
set_option maxRecDepth 20000 in
theorem ggX3_begin_X3_dropPlan : GoodIn wsX3_begin wsX3_dropPlan := goodIn_r _ [11, 12, 13, 14, 15, 16, 17, 18, 19, 20, 21, 22, 23] (by decide +kernel) (by decide +kernel)
set_option maxRecDepth 20000 in
theorem gX3_begin_X3_dropPlan : GoodIn wsX3_begin (wsV RX3 20 RX3 yX3_dropPlan wsX3_dropPlan) := goodIn_app (goodIn_of _ (by decide +kernel)) ggX3_begin_X3_dropPlan
set_option maxRecDepth 20000 in
theorem ggX3_turn_X3_dropPlan : GoodIn wsX3_turn wsX3_dropPlan := goodIn_r _ [6, 7, 8, 9, 10, 11, 12, 13, 14, 15, 16, 17, 18] (by decide +kernel) (by decide +kernel)
set_option maxRecDepth 20000 in
theorem gX3_turn_X3_dropPlan : GoodIn wsX3_turn (wsV RX3 20 RX3 yX3_dropPlan wsX3_dropPlan) := goodIn_app (goodIn_of _ (by decide +kernel)) ggX3_turn_X3_dropPlan
set_option maxRecDepth 20000 in
theorem ggX3_change_X3_dropPlan : GoodIn wsX3_change wsX3_dropPlan := goodIn_r _ [10, 11, 12, 13, 14, 15, 16, 17, 18, 19, 20, 21, 22] (by decide +kernel) (by decide +kernel)
set_option maxRecDepth 20000 in
theorem gX3_change_X3_dropPlan : GoodIn wsX3_change (wsV RX3 20 RX3 yX3_dropPlan wsX3_dropPlan) := goodIn_app (goodIn_of _ (by decide +kernel)) ggX3_change_X3_dropPlan
set_option maxRecDepth 20000 in
theorem ggX5_read_X5_step : GoodIn wsX5_read wsX5_step := goodIn_r _ [24, 11, 9, 1, 25, 26, 19, 27, 210, 211, 212, 213, 214, 215, 216, 217, 218, 219, 220, 221, 222, 223] (by decide +kernel) (by decide +kernel)
set_option maxRecDepth 20000 in
theorem gX5_read_X5_step : GoodIn wsX5_read (wsV RX5 44 RX5 yX5_step wsX5_step) := goodIn_app (goodIn_of _ (by decide +kernel)) ggX5_read_X5_step
set_option maxRecDepth 20000 in
theorem ggX5_read_X5_takeWord : GoodIn wsX5_read wsX5_takeWord := goodIn_r _ [31, 25, 32, 33, 34, 23, 35, 19, 11, 1, 36, 37, 38, 39, 40, 41, 42, 43, 44, 45, 46, 47, 48, 49, 50, 51, 52, 53, 54, 55, 56, 57, 58, 59, 60, 61, 62, 63, 64, 65, 66, 67, 68, 69, 70, 71, 72, 73, 74, 75, 76, 77, 78, 79, 80, 81, 82, 83, 84, 85, 86, 87, 88, 89, 13, 20, 21, 22, 24, 9, 26, 27, 210, 211, 212, 213, 214, 215, 216, 217, 218, 219, 220, 221, 222, 223] (by decide +kernel) (by decide +kernel)
set_option maxRecDepth 20000 in
theorem gX5_read_X5_takeWord : GoodIn wsX5_read (wsV RX5 49 RX5 yX5_takeWord wsX5_takeWord) := goodIn_app (goodIn_of _ (by decide +kernel)) ggX5_read_X5_takeWord
set_option maxRecDepth 20000 in
theorem ggX5_read_X5_takeNumber : GoodIn wsX5_read wsX5_takeNumber := goodIn_r _ [93, 19, 25, 26, 17, 94, 85, 86, 87, 23, 88, 89, 13, 20, 21, 22, 24, 11, 9, 1, 27, 210, 211, 212, 213, 214, 215, 216, 217, 218, 219, 220, 221, 222, 223] (by decide +kernel) (by decide +kernel)
set_option maxRecDepth 20000 in
theorem gX5_read_X5_takeNumber : GoodIn wsX5_read (wsV RX5 55 RX5 yX5_takeNumber wsX5_takeNumber) := goodIn_app (goodIn_of _ (by decide +kernel)) ggX5_read_X5_takeNumber
set_option maxRecDepth 20000 in
theorem ggX5_read_X6_init : GoodIn wsX5_read wsX6_init := goodIn_r _ [97, 98, 99, 100, 101, 102, 103, 104, 105, 106, 107, 224, 225, 226, 227, 228, 229, 230, 231] (by decide +kernel) (by decide +kernel)
set_option maxRecDepth 20000 in
theorem gX5_read_X6_init : GoodIn wsX5_read (wsX6_init) := ggX5_read_X6_init
set_option maxRecDepth 20000 in
theorem ggX5_read_X5_takeMark : GoodIn wsX5_read wsX5_takeMark := goodIn_r _ [111, 25, 112, 113, 114, 23, 115, 19, 26, 85, 86, 87, 88, 89, 13, 20, 21, 22, 24, 11, 9, 1, 27, 210, 211, 212, 213, 214, 215, 216, 217, 218, 219, 220, 221, 222, 223] (by decide +kernel) (by decide +kernel)
set_option maxRecDepth 20000 in
theorem gX5_read_X5_takeMark : GoodIn wsX5_read (wsV RX5 69 RX5 yX5_takeMark wsX5_takeMark) := goodIn_app (goodIn_of _ (by decide +kernel)) ggX5_read_X5_takeMark
set_option maxRecDepth 20000 in
theorem ggX5_read_X5_readStatement : GoodIn wsX5_read wsX5_readStatement := goodIn_r _ [119, 18, 120, 121, 122, 123, 12, 25, 32, 33, 34, 23, 35, 19, 11, 1, 36, 37, 38, 39, 40, 41, 42, 43, 44, 45, 46, 47, 48, 49, 50, 51, 52, 53, 54, 55, 56, 57, 58, 59, 60, 61, 62, 63, 64, 65, 66, 67, 68, 69, 70, 71, 72, 73, 74, 75, 76, 77, 78, 79, 80, 81, 82, 83, 84, 124, 125, 126, 127, 17, 94, 20, 21, 22, 24, 9, 26, 27, 90, 91, 92, 93, 85, 86, 87, 88, 89, 13, 128, 129, 130, 16, 131, 102, 132, 133, 134, 135, 112, 113, 114, 115, 136, 137, 138, 139, 104, 105, 140, 141, 142, 143, 144, 145, 146, 147, 106, 148, 149, 150, 151, 152, 153, 154, 155, 156, 157, 158, 159, 160, 161, 162, 163, 164, 165, 166, 167, 168, 169, 170, 171, 172, 173, 174, 108, 109, 110, 111, 175, 176, 177, 178, 179, 180, 181, 182, 183, 184, 185, 186, 99, 100, 103, 187, 188, 189, 190, 191, 192, 193, 194, 195, 196, 197, 198, 199, 3, 4, 5, 200, 201, 202, 203, 210, 211, 212, 213, 214, 215, 216, 217, 218, 219, 220, 221, 222, 223, 224, 225, 226, 227, 228, 229, 230, 231, 232, 233] (by decide +kernel) (by decide +kernel)
set_option maxRecDepth 20000 in
theorem gX5_read_X5_readStatement : GoodIn wsX5_read (wsV RX5 76 RX5 yX5_readStatement wsX5_readStatement) := goodIn_app (goodIn_of _ (by decide +kernel)) ggX5_read_X5_readStatement
set_option maxRecDepth 20000 in
theorem ggX5_read_X6_fillIn : GoodIn wsX5_read wsX6_fillIn := goodIn_r _ [207, 208, 107, 209, 224, 225, 226, 227, 228, 229, 230, 231] (by decide +kernel) (by decide +kernel)
set_option maxRecDepth 20000 in
theorem gX5_read_X6_fillIn : GoodIn wsX5_read (wsV RX5 80 RX6 yX6_fillIn wsX6_fillIn) := goodIn_app (goodIn_of _ (by decide +kernel)) ggX5_read_X6_fillIn
set_option maxRecDepth 20000 in
theorem ggX5_readStatement_X5_isWord : GoodIn wsX5_readStatement wsX5_isWord := goodIn_r _ [12, 13, 14, 7, 15, 16, 17, 18, 19, 20, 21, 22, 23, 24, 25, 26, 27, 28, 29, 30, 31, 32, 33, 34, 35, 36, 37, 38, 39, 40, 41, 42, 43, 44, 45, 46, 47, 48, 49, 50, 51, 52, 53, 54, 55, 56, 57, 58, 59, 60, 61, 62, 63, 64, 183, 184, 185, 186, 187, 188, 189, 190, 191, 192, 193, 194, 195, 196] (by decide +kernel) (by decide +kernel)
set_option maxRecDepth 20000 in
theorem gX5_readStatement_X5_isWord : GoodIn wsX5_readStatement (wsV RX5 85 RX5 yX5_isWord wsX5_isWord) := goodIn_app (goodIn_of _ (by decide +kernel)) ggX5_readStatement_X5_isWord
set_option maxRecDepth 20000 in
theorem ggX5_readStatement_X5_readClock : GoodIn wsX5_readStatement wsX5_readClock := goodIn_r _ [68, 1, 69, 70, 71, 72, 73, 11, 74, 14, 75, 15, 7, 76, 13, 77, 78, 79, 80, 81, 82, 83, 84, 85, 86, 87, 88, 89, 90, 91, 92, 93, 94, 95, 96, 97, 98, 99, 100, 101, 102, 103, 104, 105, 106, 107, 183, 184, 185, 186, 187, 188, 189, 190, 191, 192, 193, 194, 195, 196, 197, 198, 199, 200, 201, 202, 203, 204] (by decide +kernel) (by decide +kernel)
set_option maxRecDepth 20000 in
theorem gX5_readStatement_X5_readClock : GoodIn wsX5_readStatement (wsV RX5 88 RX5 yX5_readClock wsX5_readClock) := goodIn_app (goodIn_of _ (by decide +kernel)) ggX5_readStatement_X5_readClock
set_option maxRecDepth 20000 in
theorem ggX5_readStatement_X5_readLink : GoodIn wsX5_readStatement wsX5_readLink := goodIn_r _ [111, 1, 69, 70, 71, 72, 73, 11, 74, 14, 75, 15, 7, 76, 13, 77, 78, 79, 80, 81, 82, 83, 84, 85, 86, 87, 112, 113, 114, 91, 115, 116, 117, 118, 119, 120, 121, 122, 123, 183, 184, 185, 186, 187, 188, 189, 190, 191, 192, 193, 194, 195, 196, 197, 198, 199, 200, 201, 202, 203, 204] (by decide +kernel) (by decide +kernel)
set_option maxRecDepth 20000 in
theorem gX5_readStatement_X5_readLink : GoodIn wsX5_readStatement (wsV RX5 93 RX5 yX5_readLink wsX5_readLink) := goodIn_app (goodIn_of _ (by decide +kernel)) ggX5_readStatement_X5_readLink
set_option maxRecDepth 20000 in
theorem ggX5_readStatement_X5_readNeed : GoodIn wsX5_readStatement wsX5_readNeed := goodIn_r _ [127, 1, 69, 71, 72, 73, 11, 74, 14, 75, 15, 7, 76, 13, 77, 78, 79, 80, 81, 70, 82, 83, 84, 85, 86, 87, 183, 184, 185, 186, 187, 188, 189, 190, 191, 192, 193, 194, 195, 196, 197, 198, 199, 200, 201, 202, 203, 204] (by decide +kernel) (by decide +kernel)
set_option maxRecDepth 20000 in
theorem gX5_readStatement_X5_readNeed : GoodIn wsX5_readStatement (wsV RX5 100 RX5 yX5_readNeed wsX5_readNeed) := goodIn_app (goodIn_of _ (by decide +kernel)) ggX5_readStatement_X5_readNeed
set_option maxRecDepth 20000 in
theorem ggX5_readStatement_X5_readPatience : GoodIn wsX5_readStatement wsX5_readPatience := goodIn_r _ [131, 1, 69, 71, 72, 73, 11, 74, 14, 75, 15, 7, 76, 13, 77, 78, 79, 80, 81, 70, 82, 83, 84, 85, 86, 87, 183, 184, 185, 186, 187, 188, 189, 190, 191, 192, 193, 194, 195, 196, 197, 198, 199, 200, 201, 202, 203, 204] (by decide +kernel) (by decide +kernel)
set_option maxRecDepth 20000 in
theorem gX5_readStatement_X5_readPatience : GoodIn wsX5_readStatement (wsV RX5 107 RX5 yX5_readPatience wsX5_readPatience) := goodIn_app (goodIn_of _ (by decide +kernel)) ggX5_readStatement_X5_readPatience
set_option maxRecDepth 20000 in
theorem ggX5_readStatement_X5_step : GoodIn wsX5_readStatement wsX5_step := goodIn_r _ [74, 14, 75, 15, 7, 76, 13, 77, 183, 184, 185, 186, 187, 188, 189, 190, 191, 192, 193, 194, 195, 196] (by decide +kernel) (by decide +kernel)
set_option maxRecDepth 20000 in
theorem gX5_readStatement_X5_step : GoodIn wsX5_readStatement (wsV RX5 44 RX5 yX5_step wsX5_step) := goodIn_app (goodIn_of _ (by decide +kernel)) ggX5_readStatement_X5_step
set_option maxRecDepth 20000 in
theorem ggX5_readStatement_X5_readSum : GoodIn wsX5_readStatement wsX5_readSum := goodIn_r _ [135, 136, 137, 138, 11, 98, 99, 100, 101, 13, 76, 71, 72, 73, 74, 14, 75, 15, 7, 77, 139, 140, 141, 142, 6, 5, 143, 69, 78, 79, 80, 81, 70, 82, 83, 84, 85, 86, 87, 132, 133, 134, 144, 145, 146, 147, 148, 149, 150, 151, 8, 9, 10, 12, 16, 17, 18, 19, 20, 21, 22, 23, 24, 25, 26, 27, 28, 29, 30, 31, 32, 33, 34, 35, 36, 37, 38, 39, 40, 41, 42, 43, 44, 45, 46, 47, 48, 49, 50, 51, 52, 53, 54, 55, 56, 57, 58, 59, 60, 61, 62, 63, 64, 152, 153, 154, 155, 183, 184, 185, 186, 187, 188, 189, 190, 191, 192, 193, 194, 195, 196] (by decide +kernel) (by decide +kernel)
set_option maxRecDepth 20000 in
theorem gX5_readStatement_X5_readSum : GoodIn wsX5_readStatement (wsV RX5 115 RX5 yX5_readSum wsX5_readSum) := goodIn_app (goodIn_of _ (by decide +kernel)) ggX5_readStatement_X5_readSum
set_option maxRecDepth 20000 in
theorem ggX5_readStatement_X0_init : GoodIn wsX5_readStatement wsX0_init := goodIn_r _ [158, 159, 160, 161, 162, 163, 164, 165, 166, 167, 168, 169, 170, 171, 172, 173, 174, 175, 176, 177, 178, 179, 180, 181, 182, 205, 206] (by decide +kernel) (by decide +kernel)
set_option maxRecDepth 20000 in
theorem gX5_readStatement_X0_init : GoodIn wsX5_readStatement (wsX0_init) := ggX5_readStatement_X0_init
set_option maxRecDepth 20000 in
theorem ggX5_readStatement_X5_fail : GoodIn wsX5_readStatement wsX5_fail := goodIn_r _ [85, 86, 87, 183, 184, 185, 186, 187, 188, 189, 190, 191, 192, 193, 194, 195, 196] (by decide +kernel) (by decide +kernel)
set_option maxRecDepth 20000 in
theorem gX5_readStatement_X5_fail : GoodIn wsX5_readStatement (wsV RX5 127 RX5 yX5_fail wsX5_fail) := goodIn_app (goodIn_of _ (by decide +kernel)) ggX5_readStatement_X5_fail
set_option maxRecDepth 20000 in
theorem ggX5_readNeed_X5_step : GoodIn wsX5_readNeed wsX5_step := goodIn_r _ [7, 8, 9, 10, 11, 12, 13, 14, 26, 27, 28, 29, 30, 31, 32, 33, 34, 35, 36, 37, 38, 39] (by decide +kernel) (by decide +kernel)
set_option maxRecDepth 20000 in
theorem gX5_readNeed_X5_step : GoodIn wsX5_readNeed (wsV RX5 44 RX5 yX5_step wsX5_step) := goodIn_app (goodIn_of _ (by decide +kernel)) ggX5_readNeed_X5_step
set_option maxRecDepth 20000 in
theorem ggX5_readNeed_X5_takeNumber : GoodIn wsX5_readNeed wsX5_takeNumber := goodIn_r _ [18, 13, 11, 12, 2, 19, 20, 21, 22, 6, 23, 24, 25, 3, 4, 5, 7, 8, 9, 10, 14, 26, 27, 28, 29, 30, 31, 32, 33, 34, 35, 36, 37, 38, 39] (by decide +kernel) (by decide +kernel)
set_option maxRecDepth 20000 in
theorem gX5_readNeed_X5_takeNumber : GoodIn wsX5_readNeed (wsV RX5 55 RX5 yX5_takeNumber wsX5_takeNumber) := goodIn_app (goodIn_of _ (by decide +kernel)) ggX5_readNeed_X5_takeNumber
set_option maxRecDepth 20000 in
theorem ggX5_readPatience_X5_step : GoodIn wsX5_readPatience wsX5_step := goodIn_r _ [7, 8, 9, 10, 11, 12, 13, 14, 26, 27, 28, 29, 30, 31, 32, 33, 34, 35, 36, 37, 38, 39] (by decide +kernel) (by decide +kernel)
set_option maxRecDepth 20000 in
theorem gX5_readPatience_X5_step : GoodIn wsX5_readPatience (wsV RX5 44 RX5 yX5_step wsX5_step) := goodIn_app (goodIn_of _ (by decide +kernel)) ggX5_readPatience_X5_step
set_option maxRecDepth 20000 in
theorem ggX5_readPatience_X5_takeNumber : GoodIn wsX5_readPatience wsX5_takeNumber := goodIn_r _ [18, 13, 11, 12, 2, 19, 20, 21, 22, 6, 23, 24, 25, 3, 4, 5, 7, 8, 9, 10, 14, 26, 27, 28, 29, 30, 31, 32, 33, 34, 35, 36, 37, 38, 39] (by decide +kernel) (by decide +kernel)
set_option maxRecDepth 20000 in
theorem gX5_readPatience_X5_takeNumber : GoodIn wsX5_readPatience (wsV RX5 55 RX5 yX5_takeNumber wsX5_takeNumber) := goodIn_app (goodIn_of _ (by decide +kernel)) ggX5_readPatience_X5_takeNumber
set_option maxRecDepth 20000 in
theorem ggX5_readClock_X5_step : GoodIn wsX5_readClock wsX5_step := goodIn_r _ [8, 9, 10, 11, 12, 13, 14, 15, 46, 47, 48, 49, 50, 51, 52, 53, 54, 55, 56, 57, 58, 59] (by decide +kernel) (by decide +kernel)
set_option maxRecDepth 20000 in
theorem gX5_readClock_X5_step : GoodIn wsX5_readClock (wsV RX5 44 RX5 yX5_step wsX5_step) := goodIn_app (goodIn_of _ (by decide +kernel)) ggX5_readClock_X5_step
set_option maxRecDepth 20000 in
theorem ggX5_readClock_X5_takeNumber : GoodIn wsX5_readClock wsX5_takeNumber := goodIn_r _ [19, 14, 12, 13, 2, 3, 20, 21, 22, 7, 23, 24, 25, 4, 5, 6, 8, 9, 10, 11, 15, 46, 47, 48, 49, 50, 51, 52, 53, 54, 55, 56, 57, 58, 59] (by decide +kernel) (by decide +kernel)
set_option maxRecDepth 20000 in
theorem gX5_readClock_X5_takeNumber : GoodIn wsX5_readClock (wsV RX5 55 RX5 yX5_takeNumber wsX5_takeNumber) := goodIn_app (goodIn_of _ (by decide +kernel)) ggX5_readClock_X5_takeNumber
set_option maxRecDepth 20000 in
theorem ggX5_readClock_X6_hasClock : GoodIn wsX5_readClock wsX6_hasClock := goodIn_r _ [30, 31, 60, 61, 62, 63, 64, 65, 66, 67] (by decide +kernel) (by decide +kernel)
set_option maxRecDepth 20000 in
theorem gX5_readClock_X6_hasClock : GoodIn wsX5_readClock (wsV RX5 132 RX6 yX6_hasClock wsX6_hasClock) := goodIn_app (goodIn_of _ (by decide +kernel)) ggX5_readClock_X6_hasClock
set_option maxRecDepth 20000 in
theorem ggX5_readClock_X5_fail : GoodIn wsX5_readClock wsX5_fail := goodIn_r _ [23, 24, 25, 46, 47, 48, 49, 50, 51, 52, 53, 54, 55, 56, 57, 58, 59] (by decide +kernel) (by decide +kernel)
set_option maxRecDepth 20000 in
theorem gX5_readClock_X5_fail : GoodIn wsX5_readClock (wsV RX5 127 RX5 yX5_fail wsX5_fail) := goodIn_app (goodIn_of _ (by decide +kernel)) ggX5_readClock_X5_fail
set_option maxRecDepth 20000 in
theorem ggX5_readClock_X5_takeSigned : GoodIn wsX5_readClock wsX5_takeSigned := goodIn_r _ [35, 12, 14, 13, 2, 36, 37, 38, 7, 39, 4, 5, 6, 8, 9, 10, 11, 15, 20, 21, 22, 23, 24, 25, 46, 47, 48, 49, 50, 51, 52, 53, 54, 55, 56, 57, 58, 59] (by decide +kernel) (by decide +kernel)
set_option maxRecDepth 20000 in
theorem gX5_readClock_X5_takeSigned : GoodIn wsX5_readClock (wsV RX5 138 RX5 yX5_takeSigned wsX5_takeSigned) := goodIn_app (goodIn_of _ (by decide +kernel)) ggX5_readClock_X5_takeSigned
set_option maxRecDepth 20000 in
theorem ggX5_readClock_X6_setClock : GoodIn wsX5_readClock wsX6_setClock := goodIn_r _ [43, 31, 44, 45, 60, 61, 62, 63, 64, 65, 66, 67] (by decide +kernel) (by decide +kernel)
set_option maxRecDepth 20000 in
theorem gX5_readClock_X6_setClock : GoodIn wsX5_readClock (wsV RX5 141 RX6 yX6_setClock wsX6_setClock) := goodIn_app (goodIn_of _ (by decide +kernel)) ggX5_readClock_X6_setClock
set_option maxRecDepth 20000 in
theorem ggX5_readLink_X5_step : GoodIn wsX5_readLink wsX5_step := goodIn_r _ [8, 9, 10, 11, 12, 13, 14, 15, 39, 40, 41, 42, 43, 44, 45, 46, 47, 48, 49, 50, 51, 52] (by decide +kernel) (by decide +kernel)
set_option maxRecDepth 20000 in
theorem gX5_readLink_X5_step : GoodIn wsX5_readLink (wsV RX5 44 RX5 yX5_step wsX5_step) := goodIn_app (goodIn_of _ (by decide +kernel)) ggX5_readLink_X5_step
set_option maxRecDepth 20000 in
theorem ggX5_readLink_X5_takeNumber : GoodIn wsX5_readLink wsX5_takeNumber := goodIn_r _ [19, 14, 12, 13, 2, 3, 20, 21, 22, 7, 23, 24, 25, 4, 5, 6, 8, 9, 10, 11, 15, 39, 40, 41, 42, 43, 44, 45, 46, 47, 48, 49, 50, 51, 52] (by decide +kernel) (by decide +kernel)
set_option maxRecDepth 20000 in
theorem gX5_readLink_X5_takeNumber : GoodIn wsX5_readLink (wsV RX5 55 RX5 yX5_takeNumber wsX5_takeNumber) := goodIn_app (goodIn_of _ (by decide +kernel)) ggX5_readLink_X5_takeNumber
set_option maxRecDepth 20000 in
theorem ggX5_readLink_X6_delayOf : GoodIn wsX5_readLink wsX6_delayOf := goodIn_r _ [30, 31, 32, 33, 29, 34, 53, 54, 55, 56, 57, 58, 59, 60] (by decide +kernel) (by decide +kernel)
set_option maxRecDepth 20000 in
theorem gX5_readLink_X6_delayOf : GoodIn wsX5_readLink (wsV RX5 145 RX6 yX6_delayOf wsX6_delayOf) := goodIn_app (goodIn_of _ (by decide +kernel)) ggX5_readLink_X6_delayOf
set_option maxRecDepth 20000 in
theorem ggX5_readLink_X5_fail : GoodIn wsX5_readLink wsX5_fail := goodIn_r _ [23, 24, 25, 39, 40, 41, 42, 43, 44, 45, 46, 47, 48, 49, 50, 51, 52] (by decide +kernel) (by decide +kernel)
set_option maxRecDepth 20000 in
theorem gX5_readLink_X5_fail : GoodIn wsX5_readLink (wsV RX5 127 RX5 yX5_fail wsX5_fail) := goodIn_app (goodIn_of _ (by decide +kernel)) ggX5_readLink_X5_fail
set_option maxRecDepth 20000 in
theorem ggX5_readLink_X6_setDelay : GoodIn wsX5_readLink wsX6_setDelay := goodIn_r _ [38, 31, 32, 33, 29, 34, 53, 54, 55, 56, 57, 58, 59, 60] (by decide +kernel) (by decide +kernel)
set_option maxRecDepth 20000 in
theorem gX5_readLink_X6_setDelay : GoodIn wsX5_readLink (wsV RX5 150 RX6 yX6_setDelay wsX6_setDelay) := goodIn_app (goodIn_of _ (by decide +kernel)) ggX5_readLink_X6_setDelay
set_option maxRecDepth 20000 in
theorem ggX5_readSum_X5_readTerm : GoodIn wsX5_readSum wsX5_readTerm := goodIn_r _ [103, 104, 105, 106, 4, 5, 6, 7, 8, 9, 10, 11, 12, 13, 14, 15, 16, 17, 18, 19, 20, 21, 22, 23, 24, 25, 26, 27, 28, 29, 30, 31, 32, 33, 34, 35, 36, 37, 38, 39, 40, 41, 42, 43, 44, 45, 46, 47, 48, 49, 50, 51, 52, 53, 54, 55, 56, 57, 58, 59, 60, 61, 62, 63, 64, 65, 66, 67, 68, 69, 70, 71, 72, 73, 74, 75, 76, 77, 78, 79, 80, 81, 82, 83, 84, 85, 86, 87, 88, 89, 90, 91, 92, 93, 94, 95, 96, 97, 98, 99, 100, 101, 102, 0, 1, 2, 3, 107, 108, 109, 110, 111, 112, 113, 114, 115, 116, 117, 118, 119, 120] (by decide +kernel) (by decide +kernel)
set_option maxRecDepth 20000 in
theorem gX5_readSum_X5_readTerm : GoodIn wsX5_readSum (wsV RX5 153 RX5 yX5_readTerm wsX5_readTerm) := goodIn_app (goodIn_of _ (by decide +kernel)) ggX5_readSum_X5_readTerm
set_option maxRecDepth 20000 in
theorem ggX5_readSum_X5_isMark : GoodIn wsX5_readSum wsX5_isMark := goodIn_r _ [8, 9, 10, 107, 108, 109, 110, 111, 112, 113, 114, 115, 116, 117, 118, 119, 120] (by decide +kernel) (by decide +kernel)
set_option maxRecDepth 20000 in
theorem gX5_readSum_X5_isMark : GoodIn wsX5_readSum (wsV RX5 156 RX5 yX5_isMark wsX5_isMark) := goodIn_app (goodIn_of _ (by decide +kernel)) ggX5_readSum_X5_isMark
set_option maxRecDepth 20000 in
theorem ggX5_readSum_X5_step : GoodIn wsX5_readSum wsX5_step := goodIn_r _ [14, 15, 16, 17, 18, 10, 9, 19, 107, 108, 109, 110, 111, 112, 113, 114, 115, 116, 117, 118, 119, 120] (by decide +kernel) (by decide +kernel)
set_option maxRecDepth 20000 in
theorem gX5_readSum_X5_step : GoodIn wsX5_readSum (wsV RX5 44 RX5 yX5_step wsX5_step) := goodIn_app (goodIn_of _ (by decide +kernel)) ggX5_readSum_X5_step
set_option maxRecDepth 20000 in
theorem ggX5_readSum_X5_putCode : GoodIn wsX5_readSum wsX5_putCode := goodIn_r _ [23, 24, 25, 107, 108, 109, 110, 111, 112, 113, 114, 115, 116, 117, 118, 119, 120] (by decide +kernel) (by decide +kernel)
set_option maxRecDepth 20000 in
theorem gX5_readSum_X5_putCode : GoodIn wsX5_readSum (wsV RX5 159 RX5 yX5_putCode wsX5_putCode) := goodIn_app (goodIn_of _ (by decide +kernel)) ggX5_readSum_X5_putCode
set_option maxRecDepth 20000 in
theorem ggX5_readTerm_X5_readFactor : GoodIn wsX5_readTerm wsX5_readFactor := goodIn_r _ [26, 9, 27, 18, 28, 29, 30, 4, 31, 10, 32, 33, 34, 35, 36, 37, 38, 11, 12, 13, 14, 15, 16, 17, 19, 20, 21, 22, 23, 24, 25, 5, 6, 7, 8, 39, 40, 41, 42, 43, 44, 45, 46, 47, 48, 49, 50, 51, 52, 53, 54, 55, 56, 57, 58, 59, 60, 61, 62, 63, 64, 65, 66, 67, 68, 69, 70, 71, 72, 73, 74, 75, 76, 77, 78, 79, 80, 81, 82, 83, 84, 85, 86, 87, 88, 89, 90, 91, 92, 93, 94, 95, 96, 97, 98, 99, 100, 101, 102, 103, 104, 105, 106, 0, 1, 2, 3, 107, 108, 109, 110, 111, 112, 113, 114, 115, 116, 117, 118, 119, 120] (by decide +kernel) (by decide +kernel)
set_option maxRecDepth 20000 in
theorem gX5_readTerm_X5_readFactor : GoodIn wsX5_readTerm (wsV RX5 162 RX5 yX5_readFactor wsX5_readFactor) := goodIn_app (goodIn_of _ (by decide +kernel)) ggX5_readTerm_X5_readFactor
set_option maxRecDepth 20000 in
theorem ggX5_readTerm_X5_isMark : GoodIn wsX5_readTerm wsX5_isMark := goodIn_r _ [8, 9, 10, 107, 108, 109, 110, 111, 112, 113, 114, 115, 116, 117, 118, 119, 120] (by decide +kernel) (by decide +kernel)
set_option maxRecDepth 20000 in
theorem gX5_readTerm_X5_isMark : GoodIn wsX5_readTerm (wsV RX5 156 RX5 yX5_isMark wsX5_isMark) := goodIn_app (goodIn_of _ (by decide +kernel)) ggX5_readTerm_X5_isMark
set_option maxRecDepth 20000 in
theorem ggX5_readTerm_X5_step : GoodIn wsX5_readTerm wsX5_step := goodIn_r _ [14, 15, 16, 17, 18, 10, 9, 19, 107, 108, 109, 110, 111, 112, 113, 114, 115, 116, 117, 118, 119, 120] (by decide +kernel) (by decide +kernel)
set_option maxRecDepth 20000 in
theorem gX5_readTerm_X5_step : GoodIn wsX5_readTerm (wsV RX5 44 RX5 yX5_step wsX5_step) := goodIn_app (goodIn_of _ (by decide +kernel)) ggX5_readTerm_X5_step
set_option maxRecDepth 20000 in
theorem ggX5_readTerm_X5_putCode : GoodIn wsX5_readTerm wsX5_putCode := goodIn_r _ [23, 24, 25, 107, 108, 109, 110, 111, 112, 113, 114, 115, 116, 117, 118, 119, 120] (by decide +kernel) (by decide +kernel)
set_option maxRecDepth 20000 in
theorem gX5_readTerm_X5_putCode : GoodIn wsX5_readTerm (wsV RX5 159 RX5 yX5_putCode wsX5_putCode) := goodIn_app (goodIn_of _ (by decide +kernel)) ggX5_readTerm_X5_putCode
set_option maxRecDepth 20000 in
theorem ggX5_readFactor_X5_takeNumber : GoodIn wsX5_readFactor wsX5_takeNumber := goodIn_r _ [8, 1, 3, 9, 2, 10, 11, 12, 13, 7, 14, 15, 16, 17, 18, 19, 20, 21, 22, 23, 24, 107, 108, 109, 110, 111, 112, 113, 114, 115, 116, 117, 118, 119, 120] (by decide +kernel) (by decide +kernel)
