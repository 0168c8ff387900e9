set_option maxRecDepth 20000 in
theorem ggX2_begin_J7_fill_53178 : GoodIn wsX2_begin wsJ7_fill_53178 := goodIn_r _ [6] (by decide +kernel) (by decide +kernel)
set_option maxRecDepth 20000 in
theorem gX2_begin_J7_fill_53178 : GoodIn wsX2_begin (va_wsS RX2 18 yJ7_fill_53178 wsJ7_fill_53178) := goodIn_app (goodIn_of _ (by decide +kernel)) ggX2_begin_J7_fill_53178
set_option maxRecDepth 20000 in
theorem ggX3_begin_X3_dropPlan : GoodIn wsX3_begin wsX3_dropPlan := goodIn_r _ [11, 12, 13, 14, 15, 16, 17, 18, 19, 20, 21, 22, 23] (by decide +kernel) (by decide +kernel)
set_option maxRecDepth 20000 in
theorem gX3_begin_X3_dropPlan : GoodIn wsX3_begin (wsV RX3 20 RX3 yX3_dropPlan wsX3_dropPlan) := goodIn_app (goodIn_of _ (by decide +kernel)) ggX3_begin_X3_dropPlan
set_option maxRecDepth 20000 in
theorem ggX3_turn_X3_dropPlan : GoodIn wsX3_turn wsX3_dropPlan := goodIn_r _ [6, 7, 8, 9, 10, 11, 12, 13, 14, 15, 16, 17, 18] (by decide +kernel) (by decide +kernel)
set_option maxRecDepth 20000 in
theorem gX3_turn_X3_dropPlan : GoodIn wsX3_turn (wsV RX3 20 RX3 yX3_dropPlan wsX3_dropPlan) := goodIn_app (goodIn_of _ (by decide +kernel)) ggX3_turn_X3_dropPlan
set_option maxRecDepth 20000 in
theorem ggX3_change_X3_dropPlan : GoodIn wsX3_change wsX3_dropPlan := goodIn_r _ [10, 11, 12, 13, 14, 15, 16, 17, 18, 19, 20, 21, 22] (by decide +kernel) (by decide +kernel)
set_option maxRecDepth 20000 in
theorem gX3_change_X3_dropPlan : GoodIn wsX3_change (wsV RX3 20 RX3 yX3_dropPlan wsX3_dropPlan) := goodIn_app (goodIn_of _ (by decide +kernel)) ggX3_change_X3_dropPlan
set_option maxRecDepth 20000 in
theorem ggX5_read_X5_step : GoodIn wsX5_read wsX5_step := goodIn_r _ [24, 11, 9, 1, 25, 26, 19, 27, 210, 211, 212, 213, 214, 215, 216, 217, 218, 219, 220, 221, 222, 223] (by decide +kernel) (by decide +kernel)
set_option maxRecDepth 20000 in
theorem gX5_read_X5_step : GoodIn wsX5_read (wsV RX5 44 RX5 yX5_step wsX5_step) := goodIn_app (goodIn_of _ (by decide +kernel)) ggX5_read_X5_step
set_option maxRecDepth 20000 in
theorem ggX5_read_X5_takeWord : GoodIn wsX5_read wsX5_takeWord := goodIn_r _ [31, 25, 32, 33, 34, 23, 35, 19, 11, 1, 36, 37, 38, 39, 40, 41, 42, 43, 44, 45, 46, 47, 48, 49, 50, 51, 52, 53, 54, 55, 56, 57, 58, 59, 60, 61, 62, 63, 64, 65, 66, 67, 68, 69, 70, 71, 72, 73, 74, 75, 76, 77, 78, 79, 80, 81, 82, 83, 84, 85, 86, 87, 88, 89, 13, 20, 21, 22, 24, 9, 26, 27, 210, 211, 212, 213, 214, 215, 216, 217, 218, 219, 220, 221, 222, 223] (by decide +kernel) (by decide +kernel)
set_option maxRecDepth 20000 in
theorem gX5_read_X5_takeWord : GoodIn wsX5_read (wsV RX5 49 RX5 yX5_takeWord wsX5_takeWord) := goodIn_app (goodIn_of _ (by decide +kernel)) ggX5_read_X5_takeWord
set_option maxRecDepth 20000 in
theorem ggX5_takeWord_X5_isWord : GoodIn wsX5_takeWord wsX5_isWord := goodIn_r _ [6, 7, 8, 1, 9, 10, 11, 12, 13, 14, 15, 16, 17, 18, 19, 20, 21, 22, 23, 24, 25, 26, 27, 28, 29, 30, 31, 32, 33, 34, 35, 36, 37, 38, 39, 40, 41, 42, 43, 44, 45, 46, 47, 48, 49, 50, 51, 52, 53, 54, 55, 56, 57, 58, 72, 73, 74, 75, 76, 77, 78, 79, 80, 81, 82, 83, 84, 85] (by decide +kernel) (by decide +kernel)
set_option maxRecDepth 20000 in
theorem gX5_takeWord_X5_isWord : GoodIn wsX5_takeWord (wsV RX5 85 RX5 yX5_isWord wsX5_isWord) := goodIn_app (goodIn_of _ (by decide +kernel)) ggX5_takeWord_X5_isWord
set_option maxRecDepth 20000 in
theorem ggX5_takeWord_X5_fail : GoodIn wsX5_takeWord wsX5_fail := goodIn_r _ [62, 63, 64, 72, 73, 74, 75, 76, 77, 78, 79, 80, 81, 82, 83, 84, 85] (by decide +kernel) (by decide +kernel)
set_option maxRecDepth 20000 in
theorem gX5_takeWord_X5_fail : GoodIn wsX5_takeWord (wsV RX5 127 RX5 yX5_fail wsX5_fail) := goodIn_app (goodIn_of _ (by decide +kernel)) ggX5_takeWord_X5_fail
set_option maxRecDepth 20000 in
theorem ggX6_delayOf_X6_place : GoodIn wsX6_delayOf wsX6_place := goodIn_r _ [5] (by decide +kernel) (by decide +kernel)
set_option maxRecDepth 20000 in
theorem gX6_delayOf_X6_place : GoodIn wsX6_delayOf (va_wsS RX6 33 yX6_place wsX6_place) := goodIn_app (goodIn_of _ (by decide +kernel)) ggX6_delayOf_X6_place
set_option maxRecDepth 20000 in
theorem ggX7_init_X2_init : GoodIn wsX7_init wsX2_init := goodIn_r _ [25, 26, 2, 3, 27, 28, 29, 30, 119, 120, 121] (by decide +kernel) (by decide +kernel)
set_option maxRecDepth 20000 in
theorem gX7_init_X2_init_n19 : GoodIn wsX7_init (wsX2_init) := ggX7_init_X2_init
set_option maxRecDepth 20000 in
theorem ggX7_init_X4_init : GoodIn wsX7_init wsX4_init := goodIn_r _ [32, 33, 2, 3] (by decide +kernel) (by decide +kernel)
set_option maxRecDepth 20000 in
theorem gX7_init_X4_init_n26 : GoodIn wsX7_init (wsX4_init) := ggX7_init_X4_init
set_option maxRecDepth 20000 in
theorem ggX7_init_X1_init : GoodIn wsX7_init wsX1_init := goodIn_r _ [35, 36, 2, 3] (by decide +kernel) (by decide +kernel)
set_option maxRecDepth 20000 in
theorem gX7_init_X1_init_n33 : GoodIn wsX7_init (wsX1_init) := ggX7_init_X1_init
set_option maxRecDepth 20000 in
theorem ggX7_init_X3_init : GoodIn wsX7_init wsX3_init := goodIn_r _ [38, 39, 2, 3] (by decide +kernel) (by decide +kernel)
set_option maxRecDepth 20000 in
theorem gX7_init_X3_init_n41 : GoodIn wsX7_init (wsX3_init) := ggX7_init_X3_init
set_option maxRecDepth 20000 in
theorem ggX7_init_X6_init : GoodIn wsX7_init wsX6_init := goodIn_r _ [42, 43, 2, 3, 44, 45, 28, 46, 47, 48, 49, 147, 148, 149, 150, 151, 152, 153, 154] (by decide +kernel) (by decide +kernel)
set_option maxRecDepth 20000 in
theorem gX7_init_X6_init : GoodIn wsX7_init (wsX6_init) := ggX7_init_X6_init
set_option maxRecDepth 20000 in
theorem ggX7_init_X6_fillIn : GoodIn wsX7_init wsX6_fillIn := goodIn_r _ [53, 54, 49, 55, 147, 148, 149, 150, 151, 152, 153, 154] (by decide +kernel) (by decide +kernel)
set_option maxRecDepth 20000 in
theorem gX7_init_X6_fillIn : GoodIn wsX7_init (wsV RX7 45 RX6 yX6_fillIn wsX6_fillIn) := goodIn_app (goodIn_of _ (by decide +kernel)) ggX7_init_X6_fillIn
set_option maxRecDepth 20000 in
theorem ggX7_init_X7_begin : GoodIn wsX7_init wsX7_begin := goodIn_r _ [60, 61, 5, 9, 13, 62, 63, 64, 65, 66, 67, 68, 69, 70, 71, 72, 73, 74, 20, 75, 76, 77, 78, 79, 80, 81, 82, 83, 84, 85, 86, 87, 88, 89, 90, 8, 91, 30, 92, 93, 94, 95, 96, 97, 98, 99, 12, 100, 101, 102, 103, 104, 105, 106, 107, 108, 109, 110, 111, 112, 113, 114, 115, 116, 117, 118, 137, 138, 139, 140, 141, 142, 143, 144, 145, 146, 119, 120, 121, 122, 123, 124, 125, 126, 127, 128, 129] (by decide +kernel) (by decide +kernel)
set_option maxRecDepth 20000 in
theorem gX7_init_X7_begin : GoodIn wsX7_init (wsV RX7 48 RX7 yX7_begin wsX7_begin) := goodIn_app (goodIn_of _ (by decide +kernel)) ggX7_init_X7_begin
set_option maxRecDepth 20000 in
theorem ggX7_begin_X3_begin : GoodIn wsX7_begin wsX3_begin := goodIn_r _ [19, 20, 21, 22, 23, 24, 25, 26, 27, 28, 18, 29, 30, 31, 66, 67, 68, 69, 70, 71, 72, 73, 74, 75] (by decide +kernel) (by decide +kernel)
set_option maxRecDepth 20000 in
theorem gX7_begin_X3_begin : GoodIn wsX7_begin (wsV RX7 56 RX3 yX3_begin wsX3_begin) := goodIn_app (goodIn_of _ (by decide +kernel)) ggX7_begin_X3_begin
set_option maxRecDepth 20000 in
theorem ggX7_begin_X2_begin : GoodIn wsX7_begin wsX2_begin := goodIn_r _ [36, 37, 38, 39, 40, 41, 42, 76, 77, 78] (by decide +kernel) (by decide +kernel)
set_option maxRecDepth 20000 in
theorem gX7_begin_X2_begin : GoodIn wsX7_begin (wsV RX7 58 RX2 yX2_begin wsX2_begin) := goodIn_app (goodIn_of _ (by decide +kernel)) ggX7_begin_X2_begin
set_option maxRecDepth 20000 in
theorem ggX7_begin_X4_begin : GoodIn wsX7_begin wsX4_begin := goodIn_r _ [47, 48, 49, 79, 80, 81, 82, 83, 84, 85, 86] (by decide +kernel) (by decide +kernel)
set_option maxRecDepth 20000 in
theorem gX7_begin_X4_begin : GoodIn wsX7_begin (wsV RX7 59 RX4 yX4_begin wsX4_begin) := goodIn_app (goodIn_of _ (by decide +kernel)) ggX7_begin_X4_begin
set_option maxRecDepth 20000 in
theorem ggX7_copyFrom_X7_at : GoodIn wsX7_copyFrom wsX7_at := goodIn_r _ [19, 2, 65, 66, 67, 68, 69, 70, 71, 72, 73, 74, 75, 76, 77, 78, 79, 80] (by decide +kernel) (by decide +kernel)
set_option maxRecDepth 20000 in
theorem gX7_copyFrom_X7_at : GoodIn wsX7_copyFrom (wsV RX7 92 RX7 yX7_at wsX7_at) := goodIn_app (goodIn_of _ (by decide +kernel)) ggX7_copyFrom_X7_at
set_option maxRecDepth 20000 in
theorem ggX7_copyFrom_X3_copyFrom : GoodIn wsX7_copyFrom wsX3_copyFrom := goodIn_r _ [24, 25, 26, 27, 28, 29, 30, 31, 32, 33, 34, 81, 82, 83, 84, 85, 86, 87, 88, 89, 90] (by decide +kernel) (by decide +kernel)
set_option maxRecDepth 20000 in
theorem gX7_copyFrom_X3_copyFrom : GoodIn wsX7_copyFrom (wsV RX7 96 RX3 yX3_copyFrom wsX3_copyFrom) := goodIn_app (goodIn_of _ (by decide +kernel)) ggX7_copyFrom_X3_copyFrom
set_option maxRecDepth 20000 in
theorem ggX7_copyFrom_X2_copyFrom : GoodIn wsX7_copyFrom wsX2_copyFrom := goodIn_r _ [39, 40, 41, 42, 43, 44, 45, 46, 47, 48, 49, 50, 51, 91, 92, 93] (by decide +kernel) (by decide +kernel)
set_option maxRecDepth 20000 in
theorem gX7_copyFrom_X2_copyFrom : GoodIn wsX7_copyFrom (wsV RX7 100 RX2 yX2_copyFrom wsX2_copyFrom) := goodIn_app (goodIn_of _ (by decide +kernel)) ggX7_copyFrom_X2_copyFrom
set_option maxRecDepth 20000 in
theorem ggX7_copyFrom_X4_copyFrom : GoodIn wsX7_copyFrom wsX4_copyFrom := goodIn_r _ [56, 57, 58, 59, 60, 61, 62, 63, 64, 94, 95, 96, 97, 98, 99, 100, 101] (by decide +kernel) (by decide +kernel)
set_option maxRecDepth 20000 in
theorem gX7_copyFrom_X4_copyFrom : GoodIn wsX7_copyFrom (wsV RX7 103 RX4 yX4_copyFrom wsX4_copyFrom) := goodIn_app (goodIn_of _ (by decide +kernel)) ggX7_copyFrom_X4_copyFrom
set_option maxRecDepth 20000 in
theorem ggX7_clock_X6_clock : GoodIn wsX7_clock wsX6_clock := goodIn_r _ [7, 8, 9, 26, 27, 28, 29, 30, 31, 32, 33] (by decide +kernel) (by decide +kernel)
set_option maxRecDepth 20000 in
theorem gX7_clock_X6_clock : GoodIn wsX7_clock (wsV RX7 106 RX6 yX6_clock wsX6_clock) := goodIn_app (goodIn_of _ (by decide +kernel)) ggX7_clock_X6_clock
set_option maxRecDepth 20000 in
theorem ggX7_estimate_X7_clock : GoodIn wsX7_estimate wsX7_clock := goodIn_r _ [5, 6, 7, 8, 9, 10, 11, 12, 13, 14, 30, 31, 32, 33, 34, 35, 36, 37, 38, 39, 40, 41, 42, 43, 44, 45, 46, 47, 48, 49, 50, 51, 52, 53] (by decide +kernel) (by decide +kernel)
set_option maxRecDepth 20000 in
theorem gX7_estimate_X7_clock : GoodIn wsX7_estimate (wsV RX7 110 RX7 yX7_clock wsX7_clock) := goodIn_app (goodIn_of _ (by decide +kernel)) ggX7_estimate_X7_clock
set_option maxRecDepth 20000 in
theorem ggX7_estimate_X7_at : GoodIn wsX7_estimate wsX7_at := goodIn_r _ [18, 19, 30, 31, 32, 33, 34, 35, 36, 37, 38, 39, 40, 41, 42, 43, 44, 45] (by decide +kernel) (by decide +kernel)
set_option maxRecDepth 20000 in
theorem gX7_estimate_X7_at : GoodIn wsX7_estimate (wsV RX7 92 RX7 yX7_at wsX7_at) := goodIn_app (goodIn_of _ (by decide +kernel)) ggX7_estimate_X7_at
set_option maxRecDepth 20000 in
theorem ggX7_error_X7_estimate : GoodIn wsX7_error wsX7_estimate := goodIn_r _ [6, 7, 8, 9, 5, 10, 11, 12, 13, 14, 15, 16, 17, 18, 19, 20, 21, 22, 23, 24, 41, 42, 43, 44, 45, 46, 47, 48, 49, 50, 25, 26, 27, 28, 29, 30, 31, 32, 33, 34, 35, 36, 37, 38, 39, 40, 51, 52, 53, 54, 55, 56, 57, 58] (by decide +kernel) (by decide +kernel)
set_option maxRecDepth 20000 in
theorem gX7_error_X7_estimate : GoodIn wsX7_error (wsV RX7 116 RX7 yX7_estimate wsX7_estimate) := goodIn_app (goodIn_of _ (by decide +kernel)) ggX7_error_X7_estimate
set_option maxRecDepth 20000 in
theorem ggX7_error_X7_clock : GoodIn wsX7_error wsX7_clock := goodIn_r _ [10, 11, 12, 13, 14, 15, 16, 17, 18, 19, 25, 26, 27, 28, 29, 30, 31, 32, 33, 34, 35, 36, 37, 38, 39, 40, 51, 52, 53, 54, 55, 56, 57, 58] (by decide +kernel) (by decide +kernel)
set_option maxRecDepth 20000 in
theorem gX7_error_X7_clock : GoodIn wsX7_error (wsV RX7 110 RX7 yX7_clock wsX7_clock) := goodIn_app (goodIn_of _ (by decide +kernel)) ggX7_error_X7_clock
set_option maxRecDepth 20000 in
theorem ggX7_delay_X6_delayOf : GoodIn wsX7_delay wsX6_delayOf := goodIn_r _ [6, 7, 8, 9, 5, 10, 27, 28, 29, 30, 31, 32, 33, 34] (by decide +kernel) (by decide +kernel)
set_option maxRecDepth 20000 in
theorem gX7_delay_X6_delayOf : GoodIn wsX7_delay (wsV RX7 119 RX6 yX6_delayOf wsX6_delayOf) := goodIn_app (goodIn_of _ (by decide +kernel)) ggX7_delay_X6_delayOf
set_option maxRecDepth 20000 in
theorem ggX7_isCut_X6_place : GoodIn wsX7_isCut wsX6_place := goodIn_r _ [5] (by decide +kernel) (by decide +kernel)
set_option maxRecDepth 20000 in
theorem gX7_isCut_X6_place : GoodIn wsX7_isCut (va_wsS RX7 122 yX6_place wsX6_place) := goodIn_app (goodIn_of _ (by decide +kernel)) ggX7_isCut_X6_place
set_option maxRecDepth 20000 in
theorem ggX7_countUp_X7_at : GoodIn wsX7_countUp wsX7_at := goodIn_r _ [6, 7, 8, 9, 10, 11, 12, 13, 14, 15, 16, 17, 18, 19, 20, 21, 22, 23] (by decide +kernel) (by decide +kernel)
set_option maxRecDepth 20000 in
theorem gX7_countUp_X7_at : GoodIn wsX7_countUp (wsV RX7 92 RX7 yX7_at wsX7_at) := goodIn_app (goodIn_of _ (by decide +kernel)) ggX7_countUp_X7_at
set_option maxRecDepth 20000 in
theorem ggX7_countSongs_X7_at : GoodIn wsX7_countSongs wsX7_at := goodIn_r _ [6, 7, 12, 13, 14, 15, 16, 17, 18, 19, 20, 21, 22, 23, 24, 25, 26, 27] (by decide +kernel) (by decide +kernel)
set_option maxRecDepth 20000 in
theorem gX7_countSongs_X7_at : GoodIn wsX7_countSongs (wsV RX7 92 RX7 yX7_at wsX7_at) := goodIn_app (goodIn_of _ (by decide +kernel)) ggX7_countSongs_X7_at
set_option maxRecDepth 20000 in
theorem ggX7_countSongs_X7_isFirstWithItsSong : GoodIn wsX7_countSongs wsX7_isFirstWithItsSong := goodIn_r _ [11, 2, 3, 4, 5, 6, 7, 36, 37, 38, 39, 40, 41, 42, 43, 44, 45, 12, 13, 14, 15, 16, 17, 18, 19, 20, 21, 22, 23, 24, 25, 26, 27] (by decide +kernel) (by decide +kernel)
set_option maxRecDepth 20000 in
theorem gX7_countSongs_X7_isFirstWithItsSong : GoodIn wsX7_countSongs (wsV RX7 133 RX7 yX7_isFirstWithItsSong wsX7_isFirstWithItsSong) := goodIn_app (goodIn_of _ (by decide +kernel)) ggX7_countSongs_X7_isFirstWithItsSong
set_option maxRecDepth 20000 in
theorem ggX7_greatestOpenDelay_X7_isCut : GoodIn wsX7_greatestOpenDelay wsX7_isCut := goodIn_r _ [10, 11, 12, 13, 14, 15, 26, 27, 28, 29, 30, 31, 32, 33, 34, 35, 36, 37, 38, 39, 40, 41] (by decide +kernel) (by decide +kernel)
set_option maxRecDepth 20000 in
theorem gX7_greatestOpenDelay_X7_isCut : GoodIn wsX7_greatestOpenDelay (wsV RX7 140 RX7 yX7_isCut wsX7_isCut) := goodIn_app (goodIn_of _ (by decide +kernel)) ggX7_greatestOpenDelay_X7_isCut
set_option maxRecDepth 20000 in
theorem ggX7_greatestOpenDelay_X7_delay : GoodIn wsX7_greatestOpenDelay wsX7_delay := goodIn_r _ [19, 1, 20, 21, 22, 14, 23, 24, 25, 13, 15, 26, 27, 28, 29, 30, 31, 32, 33, 34, 35, 36, 37, 38, 39, 40, 41, 42, 43, 44, 45, 46, 47, 48, 49] (by decide +kernel) (by decide +kernel)
set_option maxRecDepth 20000 in
theorem gX7_greatestOpenDelay_X7_delay : GoodIn wsX7_greatestOpenDelay (wsV RX7 144 RX7 yX7_delay wsX7_delay) := goodIn_app (goodIn_of _ (by decide +kernel)) ggX7_greatestOpenDelay_X7_delay
set_option maxRecDepth 20000 in
theorem ggX7_margin_X7_greatestOpenDelay : GoodIn wsX7_margin wsX7_greatestOpenDelay := goodIn_r _ [13, 1, 6, 7, 4, 8, 14, 15, 16, 12, 17, 18, 19, 20, 21, 22, 23, 24, 25, 26, 27, 28, 29, 30, 31, 32, 63, 64, 65, 66, 67, 68, 69, 70, 71, 72, 73, 74, 75, 76, 77, 78, 79, 80, 81, 82, 83, 84, 85, 86] (by decide +kernel) (by decide +kernel)
set_option maxRecDepth 20000 in
theorem gX7_margin_X7_greatestOpenDelay : GoodIn wsX7_margin (wsV RX7 156 RX7 yX7_greatestOpenDelay wsX7_greatestOpenDelay) := goodIn_app (goodIn_of _ (by decide +kernel)) ggX7_margin_X7_greatestOpenDelay
set_option maxRecDepth 20000 in
theorem ggX7_count_X7_countSongs : GoodIn wsX7_count wsX7_countSongs := goodIn_r _ [16, 1, 17, 18, 19, 15, 20, 21, 22, 23, 24, 25, 85, 86, 87, 88, 89, 90, 91, 92, 93, 94, 95, 96, 97, 98, 99, 100, 101, 102, 103, 104, 105, 106, 107, 108, 112, 113, 114, 115, 116, 117, 118, 119, 120, 121] (by decide +kernel) (by decide +kernel)
set_option maxRecDepth 20000 in
theorem gX7_count_X7_countSongs : GoodIn wsX7_count (wsV RX7 175 RX7 yX7_countSongs wsX7_countSongs) := goodIn_app (goodIn_of _ (by decide +kernel)) ggX7_count_X7_countSongs
set_option maxRecDepth 20000 in
theorem ggX7_count_X7_margin : GoodIn wsX7_count wsX7_margin := goodIn_r _ [29, 1, 30, 31, 32, 33, 34, 35, 36, 37, 38, 39, 15, 40, 41, 42, 43, 44, 45, 46, 47, 48, 49, 50, 51, 52, 53, 54, 55, 56, 57, 58, 59, 60, 61, 62, 63, 17, 18, 19, 20, 21, 64, 65, 66, 67, 68, 69, 70, 71, 72, 73, 74, 75, 76, 77, 78, 79, 80, 81, 82, 83, 84, 85, 86, 87, 88, 89, 90, 91, 92, 93, 94, 95, 96, 97, 98, 99, 100, 101, 102, 103, 104, 105, 106, 107, 108, 112, 113, 114, 115, 116, 117, 118, 119, 120, 121, 122, 123] (by decide +kernel) (by decide +kernel)
set_option maxRecDepth 20000 in
theorem gX7_count_X7_margin : GoodIn wsX7_count (wsV RX7 178 RX7 yX7_margin wsX7_margin) := goodIn_app (goodIn_of _ (by decide +kernel)) ggX7_count_X7_margin
set_option maxRecDepth 20000 in
theorem ggX7_tellPlayer_X7_at : GoodIn wsX7_tellPlayer wsX7_at := goodIn_r _ [5, 6, 39, 40, 41, 42, 43, 44, 45, 46, 47, 48, 49, 50, 51, 52, 53, 54] (by decide +kernel) (by decide +kernel)
set_option maxRecDepth 20000 in
theorem gX7_tellPlayer_X7_at : GoodIn wsX7_tellPlayer (wsV RX7 92 RX7 yX7_at wsX7_at) := goodIn_app (goodIn_of _ (by decide +kernel)) ggX7_tellPlayer_X7_at
set_option maxRecDepth 20000 in
theorem ggX7_tellPlayer_X7_clock : GoodIn wsX7_tellPlayer wsX7_clock := goodIn_r _ [10, 11, 12, 13, 14, 15, 16, 17, 18, 19, 39, 40, 41, 42, 43, 44, 45, 46, 47, 48, 49, 50, 51, 52, 53, 54, 55, 56, 57, 58, 59, 60, 61, 62] (by decide +kernel) (by decide +kernel)
set_option maxRecDepth 20000 in
theorem gX7_tellPlayer_X7_clock : GoodIn wsX7_tellPlayer (wsV RX7 110 RX7 yX7_clock wsX7_clock) := goodIn_app (goodIn_of _ (by decide +kernel)) ggX7_tellPlayer_X7_clock
set_option maxRecDepth 20000 in
theorem ggX7_tellPlayer_X7_error : GoodIn wsX7_tellPlayer wsX7_error := goodIn_r _ [23, 24, 25, 26, 27, 4, 28, 7, 8, 9, 10, 11, 12, 13, 14, 15, 16, 17, 18, 19, 1, 2, 3, 5, 6, 39, 40, 41, 42, 43, 44, 45, 46, 47, 48, 49, 50, 51, 52, 53, 54, 29, 30, 31, 32, 33, 34, 35, 36, 37, 38, 55, 56, 57, 58, 59, 60, 61, 62] (by decide +kernel) (by decide +kernel)
set_option maxRecDepth 20000 in
theorem gX7_tellPlayer_X7_error : GoodIn wsX7_tellPlayer (wsV RX7 191 RX7 yX7_error wsX7_error) := goodIn_app (goodIn_of _ (by decide +kernel)) ggX7_tellPlayer_X7_error
set_option maxRecDepth 20000 in
theorem ggX7_canPropose_X7_at : GoodIn wsX7_canPropose wsX7_at := goodIn_r _ [7, 8, 9, 10, 11, 12, 13, 14, 15, 16, 17, 18, 19, 20, 21, 22, 23, 24] (by decide +kernel) (by decide +kernel)
set_option maxRecDepth 20000 in
theorem gX7_canPropose_X7_at : GoodIn wsX7_canPropose (wsV RX7 92 RX7 yX7_at wsX7_at) := goodIn_app (goodIn_of _ (by decide +kernel)) ggX7_canPropose_X7_at
set_option maxRecDepth 20000 in
theorem ggX7_startProposal_X7_clock : GoodIn wsX7_startProposal wsX7_clock := goodIn_r _ [10, 4, 3, 11, 12, 13, 14, 15, 16, 17, 92, 93, 94, 95, 96, 97, 98, 99, 100, 101, 102, 103, 104, 105, 106, 107, 108, 109, 110, 111, 112, 113, 114, 115] (by decide +kernel) (by decide +kernel)
set_option maxRecDepth 20000 in
theorem gX7_startProposal_X7_clock : GoodIn wsX7_startProposal (wsV RX7 110 RX7 yX7_clock wsX7_clock) := goodIn_app (goodIn_of _ (by decide +kernel)) ggX7_startProposal_X7_clock
set_option maxRecDepth 20000 in
theorem ggX7_startProposal_X4_start : GoodIn wsX7_startProposal wsX4_start := goodIn_r _ [22, 23, 24, 25, 26, 27, 28, 29, 116, 117, 118, 119, 120, 121, 122, 123] (by decide +kernel) (by decide +kernel)
set_option maxRecDepth 20000 in
theorem gX7_startProposal_X4_start : GoodIn wsX7_startProposal (wsV RX7 210 RX4 yX4_start wsX4_start) := goodIn_app (goodIn_of _ (by decide +kernel)) ggX7_startProposal_X4_start
set_option maxRecDepth 20000 in
theorem ggX7_startProposal_X7_at : GoodIn wsX7_startProposal wsX7_at := goodIn_r _ [33, 34, 92, 93, 94, 95, 96, 97, 98, 99, 100, 101, 102, 103, 104, 105, 106, 107] (by decide +kernel) (by decide +kernel)
set_option maxRecDepth 20000 in
theorem gX7_startProposal_X7_at : GoodIn wsX7_startProposal (wsV RX7 92 RX7 yX7_at wsX7_at) := goodIn_app (goodIn_of _ (by decide +kernel)) ggX7_startProposal_X7_at
set_option maxRecDepth 20000 in
theorem ggX7_startProposal_X3_takePlan : GoodIn wsX7_startProposal wsX3_takePlan := goodIn_r _ [39, 40, 41, 42, 43, 124, 125, 126, 127, 128, 129, 130, 131, 132, 133] (by decide +kernel) (by decide +kernel)
set_option maxRecDepth 20000 in
theorem gX7_startProposal_X3_takePlan : GoodIn wsX7_startProposal (wsV RX7 217 RX3 yX3_takePlan wsX3_takePlan) := goodIn_app (goodIn_of _ (by decide +kernel)) ggX7_startProposal_X3_takePlan
set_option maxRecDepth 20000 in
theorem ggX7_startProposal_X7_sendToOthers : GoodIn wsX7_startProposal wsX7_sendToOthers := goodIn_r _ [47, 4, 1, 5, 48, 49, 50, 9, 51, 52, 53, 54, 3, 55, 56, 57, 58, 14, 59, 60, 61, 62, 63, 64, 65, 66, 67, 68, 69, 70, 71, 72, 73, 74, 75, 76, 77, 78, 79, 80, 81, 82, 83, 84, 85, 86, 92, 93, 94, 95, 96, 97, 98, 99, 100, 101, 102, 103, 104, 105, 106, 107, 108, 109, 110, 111, 112, 113, 114, 115, 116, 117, 118, 119, 120, 121, 122, 123, 134, 135, 136, 137, 138, 139, 140, 141, 142, 143] (by decide +kernel) (by decide +kernel)
set_option maxRecDepth 20000 in
theorem gX7_startProposal_X7_sendToOthers : GoodIn wsX7_startProposal (wsV RX7 220 RX7 yX7_sendToOthers wsX7_sendToOthers) := goodIn_app (goodIn_of _ (by decide +kernel)) ggX7_startProposal_X7_sendToOthers
set_option maxRecDepth 20000 in
theorem ggX7_startProposal_X7_commitIfVoted : GoodIn wsX7_startProposal wsX7_commitIfVoted := goodIn_r _ [90, 1, 4, 91, 5, 30, 31, 32, 9, 33, 34, 35, 36, 37, 38, 39, 40, 41, 42, 43, 44, 45, 46, 47, 48, 49, 50, 51, 52, 53, 54, 3, 55, 56, 57, 58, 14, 59, 60, 61, 62, 63, 64, 65, 66, 67, 68, 69, 70, 71, 72, 73, 74, 75, 76, 77, 78, 79, 80, 81, 82, 83, 84, 85, 86, 92, 93, 94, 95, 96, 97, 98, 99, 100, 101, 102, 103, 104, 105, 106, 107, 116, 117, 118, 119, 120, 121, 122, 123, 108, 109, 110, 111, 112, 113, 114, 115, 124, 125, 126, 127, 128, 129, 130, 131, 132, 133, 134, 135, 136, 137, 138, 139, 140, 141, 142, 143] (by decide +kernel) (by decide +kernel)
set_option maxRecDepth 20000 in
theorem gX7_startProposal_X7_commitIfVoted : GoodIn wsX7_startProposal (wsV RX7 223 RX7 yX7_commitIfVoted wsX7_commitIfVoted) := goodIn_app (goodIn_of _ (by decide +kernel)) ggX7_startProposal_X7_commitIfVoted
set_option maxRecDepth 20000 in
theorem ggX7_makeConductor_X7_at : GoodIn wsX7_makeConductor wsX7_at := goodIn_r _ [7, 2, 8, 9, 10, 11, 12, 13, 14, 15, 16, 17, 18, 19, 20, 21, 22, 23] (by decide +kernel) (by decide +kernel)
set_option maxRecDepth 20000 in
theorem gX7_makeConductor_X7_at : GoodIn wsX7_makeConductor (wsV RX7 92 RX7 yX7_at wsX7_at) := goodIn_app (goodIn_of _ (by decide +kernel)) ggX7_makeConductor_X7_at
set_option maxRecDepth 20000 in
theorem ggX7_tick_X2_countAt : GoodIn wsX7_tick wsX2_countAt := goodIn_r _ [10, 11, 173, 174, 175] (by decide +kernel) (by decide +kernel)
set_option maxRecDepth 20000 in
theorem gX7_tick_X2_countAt : GoodIn wsX7_tick (wsV RX7 201 RX2 yX2_countAt wsX2_countAt) := goodIn_app (goodIn_of _ (by decide +kernel)) ggX7_tick_X2_countAt
set_option maxRecDepth 20000 in
theorem ggX7_tick_X2_clear : GoodIn wsX7_tick wsX2_clear := goodIn_r _ [104, 64, 11, 173, 174, 175] (by decide +kernel) (by decide +kernel)
set_option maxRecDepth 20000 in
theorem gX7_tick_X2_clear : GoodIn wsX7_tick (wsV RX7 233 RX2 yX2_clear wsX2_clear) := goodIn_app (goodIn_of _ (by decide +kernel)) ggX7_tick_X2_clear
set_option maxRecDepth 20000 in
theorem ggX7_tick_X7_changeIfDue : GoodIn wsX7_tick wsX7_changeIfDue := goodIn_r _ [113, 87, 4, 1, 114, 115, 24, 25, 26, 20, 27, 28, 116, 117, 118, 119, 29, 30, 31, 32, 5, 33, 34, 35, 36, 37, 38, 39, 120, 121, 122, 77, 123, 124, 80, 82, 125, 126, 127, 128, 129, 130, 131, 132, 133, 134, 135, 81, 136, 137, 138, 139, 140, 89, 90, 91, 79, 183, 184, 185, 186, 187, 188, 189, 190, 191, 192, 141, 142, 143, 144, 145, 146, 147, 148, 149, 150, 151, 152, 153, 154, 155, 156, 165, 166, 167, 168, 169, 170, 171, 172, 157, 158, 159, 160, 161, 162, 163, 164] (by decide +kernel) (by decide +kernel)
set_option maxRecDepth 20000 in
theorem gX7_tick_X7_changeIfDue : GoodIn wsX7_tick (wsV RX7 242 RX7 yX7_changeIfDue wsX7_changeIfDue) := goodIn_app (goodIn_of _ (by decide +kernel)) ggX7_tick_X7_changeIfDue
set_option maxRecDepth 20000 in
theorem ggX7_runOn_X7_isBusy : GoodIn wsX7_runOn wsX7_isBusy := goodIn_r _ [7, 8, 2, 9, 10, 11, 12, 6, 13, 14, 149, 150, 151, 152, 153, 154, 155, 156, 157, 158, 159, 160, 161, 162, 163, 164, 173, 174, 175, 165, 166, 167, 168, 169, 170, 171, 172, 176, 177, 178, 179, 180, 181, 182, 183, 184, 185, 186, 187, 188, 189, 190, 191, 192, 193] (by decide +kernel) (by decide +kernel)
set_option maxRecDepth 20000 in
theorem gX7_runOn_X7_isBusy : GoodIn wsX7_runOn (wsV RX7 245 RX7 yX7_isBusy wsX7_isBusy) := goodIn_app (goodIn_of _ (by decide +kernel)) ggX7_runOn_X7_isBusy
set_option maxRecDepth 20000 in
theorem ggX7_runOn_X7_tick : GoodIn wsX7_runOn wsX7_tick := goodIn_r _ [18, 19, 8, 20, 2, 9, 21, 22, 23, 24, 25, 26, 27, 28, 29, 30, 31, 32, 33, 34, 6, 35, 36, 37, 10, 11, 12, 13, 14, 38, 39, 40, 41, 42, 43, 44, 45, 46, 47, 48, 49, 50, 51, 52, 53, 54, 55, 56, 57, 58, 59, 60, 61, 62, 63, 64, 65, 66, 67, 68, 69, 70, 71, 72, 73, 74, 75, 76, 77, 78, 79, 80, 81, 82, 83, 84, 85, 86, 87, 88, 89, 90, 91, 92, 93, 94, 95, 96, 97, 98, 99, 100, 101, 102, 103, 104, 105, 106, 107, 108, 109, 110, 111, 112, 113, 114, 115, 116, 117, 118, 119, 120, 121, 122, 123, 1, 124, 125, 126, 127, 128, 129, 130, 131, 132, 133, 134, 135, 136, 137, 138, 139, 140, 141, 142, 143, 144, 145, 146, 147, 148, 149, 150, 151, 152, 153, 154, 155, 156, 157, 158, 159, 160, 161, 162, 163, 164, 165, 166, 167, 168, 169, 170, 171, 172, 176, 177, 178, 179, 180, 181, 182, 183, 173, 174, 175, 194, 195, 196, 197, 198, 199, 200, 184, 185, 186, 187, 188, 189, 190, 191, 192, 193] (by decide +kernel) (by decide +kernel)
set_option maxRecDepth 20000 in
theorem gX7_runOn_X7_tick : GoodIn wsX7_runOn (wsV RX7 249 RX7 yX7_tick wsX7_tick) := goodIn_app (goodIn_of _ (by decide +kernel)) ggX7_runOn_X7_tick
set_option maxRecDepth 20000 in
theorem ggX7_isBusy_X7_at : GoodIn wsX7_isBusy wsX7_at := goodIn_r _ [8, 9, 10, 11, 12, 13, 14, 15, 16, 17, 18, 19, 20, 21, 22, 23, 24, 25] (by decide +kernel) (by decide +kernel)
set_option maxRecDepth 20000 in
theorem gX7_isBusy_X7_at : GoodIn wsX7_isBusy (wsV RX7 92 RX7 yX7_at wsX7_at) := goodIn_app (goodIn_of _ (by decide +kernel)) ggX7_isBusy_X7_at
set_option maxRecDepth 20000 in
theorem ggX7_commitIfVoted_X7_at : GoodIn wsX7_commitIfVoted wsX7_at := goodIn_r _ [9, 10, 65, 66, 67, 68, 69, 70, 71, 72, 73, 74, 75, 76, 77, 78, 79, 80] (by decide +kernel) (by decide +kernel)
set_option maxRecDepth 20000 in
theorem gX7_commitIfVoted_X7_at : GoodIn wsX7_commitIfVoted (wsV RX7 92 RX7 yX7_at wsX7_at) := goodIn_app (goodIn_of _ (by decide +kernel)) ggX7_commitIfVoted_X7_at
set_option maxRecDepth 20000 in
theorem ggX7_commitIfVoted_X3_takePlan : GoodIn wsX7_commitIfVoted wsX3_takePlan := goodIn_r _ [15, 16, 17, 18, 19, 97, 98, 99, 100, 101, 102, 103, 104, 105, 106] (by decide +kernel) (by decide +kernel)
set_option maxRecDepth 20000 in
theorem gX7_commitIfVoted_X3_takePlan : GoodIn wsX7_commitIfVoted (wsV RX7 217 RX3 yX3_takePlan wsX3_takePlan) := goodIn_app (goodIn_of _ (by decide +kernel)) ggX7_commitIfVoted_X3_takePlan
set_option maxRecDepth 20000 in
theorem ggX7_commitIfVoted_X7_sendToOthers : GoodIn wsX7_commitIfVoted wsX7_sendToOthers := goodIn_r _ [23, 2, 1, 4, 24, 25, 26, 8, 27, 28, 29, 30, 31, 32, 33, 34, 35, 36, 37, 38, 39, 40, 41, 42, 43, 44, 45, 46, 47, 48, 49, 50, 51, 52, 53, 54, 55, 56, 57, 58, 59, 60, 61, 62, 63, 64, 65, 66, 67, 68, 69, 70, 71, 72, 73, 74, 75, 76, 77, 78, 79, 80, 89, 90, 91, 92, 93, 94, 95, 96, 81, 82, 83, 84, 85, 86, 87, 88, 107, 108, 109, 110, 111, 112, 113, 114, 115, 116] (by decide +kernel) (by decide +kernel)
set_option maxRecDepth 20000 in
theorem gX7_commitIfVoted_X7_sendToOthers : GoodIn wsX7_commitIfVoted (wsV RX7 220 RX7 yX7_sendToOthers wsX7_sendToOthers) := goodIn_app (goodIn_of _ (by decide +kernel)) ggX7_commitIfVoted_X7_sendToOthers
set_option maxRecDepth 20000 in
theorem ggX7_changeIfDue_X7_at : GoodIn wsX7_changeIfDue wsX7_at := goodIn_r _ [10, 11, 67, 68, 69, 70, 71, 72, 73, 74, 75, 76, 77, 78, 79, 80, 81, 82] (by decide +kernel) (by decide +kernel)
set_option maxRecDepth 20000 in
theorem gX7_changeIfDue_X7_at : GoodIn wsX7_changeIfDue (wsV RX7 92 RX7 yX7_at wsX7_at) := goodIn_app (goodIn_of _ (by decide +kernel)) ggX7_changeIfDue_X7_at
set_option maxRecDepth 20000 in
theorem ggX7_changeIfDue_X7_estimate : GoodIn wsX7_changeIfDue wsX7_estimate := goodIn_r _ [15, 16, 17, 18, 9, 19, 20, 3, 21, 22, 23, 24, 25, 26, 27, 6, 7, 8, 10, 11, 57, 58, 59, 60, 61, 62, 63, 64, 65, 66, 67, 68, 69, 70, 71, 72, 73, 74, 75, 76, 77, 78, 79, 80, 81, 82, 83, 84, 85, 86, 87, 88, 89, 90] (by decide +kernel) (by decide +kernel)
set_option maxRecDepth 20000 in
theorem gX7_changeIfDue_X7_estimate : GoodIn wsX7_changeIfDue (wsV RX7 116 RX7 yX7_estimate wsX7_estimate) := goodIn_app (goodIn_of _ (by decide +kernel)) ggX7_changeIfDue_X7_estimate
set_option maxRecDepth 20000 in
theorem ggX7_changeIfDue_X3_canChange : GoodIn wsX7_changeIfDue wsX3_canChange := goodIn_r _ [32, 33, 34, 35, 57, 58, 59, 60, 61, 62, 63, 64, 65, 66] (by decide +kernel) (by decide +kernel)
set_option maxRecDepth 20000 in
theorem gX7_changeIfDue_X3_canChange : GoodIn wsX7_changeIfDue (wsV RX7 286 RX3 yX3_canChange wsX3_canChange) := goodIn_app (goodIn_of _ (by decide +kernel)) ggX7_changeIfDue_X3_canChange
set_option maxRecDepth 20000 in
theorem ggX7_changeIfDue_X4_noteChange : GoodIn wsX7_changeIfDue wsX4_noteChange := goodIn_r _ [40, 41, 42, 91, 92, 93, 94, 95, 96, 97, 98] (by decide +kernel) (by decide +kernel)
set_option maxRecDepth 20000 in
theorem gX7_changeIfDue_X4_noteChange : GoodIn wsX7_changeIfDue (wsV RX7 292 RX4 yX4_noteChange wsX4_noteChange) := goodIn_app (goodIn_of _ (by decide +kernel)) ggX7_changeIfDue_X4_noteChange
set_option maxRecDepth 20000 in
theorem ggX7_changeIfDue_X3_change : GoodIn wsX7_changeIfDue wsX3_change := goodIn_r _ [46, 47, 48, 49, 50, 51, 52, 53, 54, 31, 55, 34, 56, 57, 58, 59, 60, 61, 62, 63, 64, 65, 66] (by decide +kernel) (by decide +kernel)
set_option maxRecDepth 20000 in
theorem gX7_changeIfDue_X3_change : GoodIn wsX7_changeIfDue (wsV RX7 295 RX3 yX3_change wsX3_change) := goodIn_app (goodIn_of _ (by decide +kernel)) ggX7_changeIfDue_X3_change
set_option maxRecDepth 20000 in
theorem ggX8_init_X5_init : GoodIn wsX8_init wsX5_init := goodIn_r _ [16, 17, 2, 3, 18, 19, 20, 21, 123, 124, 125, 126, 127, 128, 129, 130, 131, 132, 133, 134, 135, 136] (by decide +kernel) (by decide +kernel)
set_option maxRecDepth 20000 in
theorem gX8_init_X5_init_n9 : GoodIn wsX8_init (wsX5_init) := ggX8_init_X5_init
set_option maxRecDepth 20000 in
theorem ggX8_init_X7_init : GoodIn wsX8_init wsX7_init := goodIn_r _ [24, 25, 2, 3, 26, 27, 28, 29, 30, 31, 32, 33, 34, 35, 36, 37, 38, 39, 40, 41, 42, 43, 44, 45, 46, 47, 48, 49, 20, 50, 51, 52, 53, 54, 55, 56, 57, 58, 59, 60, 61, 62, 63, 64, 65, 66, 67, 68, 69, 70, 71, 72, 73, 74, 75, 76, 77, 78, 79, 10, 80, 81, 82, 83, 84, 85, 86, 87, 88, 89, 90, 91, 92, 93, 94, 95, 96, 97, 98, 99, 100, 101, 102, 103, 104, 105, 106, 107, 108, 109, 110, 111, 112, 113, 114, 115, 116, 117, 118, 119, 120, 121, 122, 144, 145, 146, 147, 148, 149, 150, 151, 152, 153, 154, 155, 156, 157, 158, 159, 160, 161, 162, 163, 164, 165, 166, 167, 168, 169, 170, 171, 172, 173, 174, 175, 176, 177, 178, 179, 180, 181, 182, 183, 184, 185, 186, 187, 188, 189, 190, 191, 192, 193, 194, 195] (by decide +kernel) (by decide +kernel)
set_option maxRecDepth 20000 in
theorem gX8_init_X7_init : GoodIn wsX8_init (wsX7_init) := ggX8_init_X7_init
set_option maxRecDepth 20000 in
theorem ggX8_append_X5_hasRoomFor : GoodIn wsX8_append wsX5_hasRoomFor := goodIn_r _ [6, 7, 8, 20, 21, 22, 23, 24, 25, 26, 27, 28, 29, 30, 31, 32, 33] (by decide +kernel) (by decide +kernel)
set_option maxRecDepth 20000 in
theorem gX8_append_X5_hasRoomFor : GoodIn wsX8_append (wsV RX8 34 RX5 yX5_hasRoomFor wsX5_hasRoomFor) := goodIn_app (goodIn_of _ (by decide +kernel)) ggX8_append_X5_hasRoomFor
set_option maxRecDepth 20000 in
theorem ggX8_append_X5_store : GoodIn wsX8_append wsX5_store := goodIn_r _ [12, 7, 8, 20, 21, 22, 23, 24, 25, 26, 27, 28, 29, 30, 31, 32, 33] (by decide +kernel) (by decide +kernel)
set_option maxRecDepth 20000 in
theorem gX8_append_X5_store : GoodIn wsX8_append (wsV RX8 38 RX5 yX5_store wsX5_store) := goodIn_app (goodIn_of _ (by decide +kernel)) ggX8_append_X5_store
set_option maxRecDepth 20000 in
theorem ggX8_load_X5_read : GoodIn wsX8_load wsX5_read := goodIn_r _ [10, 11, 12, 13, 14, 15, 16, 17, 18, 19, 20, 21, 22, 23, 24, 25, 26, 27, 28, 29, 30, 31, 32, 9, 33, 34, 35, 36, 37, 38, 39, 40, 41, 42, 43, 44, 45, 46, 47, 48, 49, 50, 51, 52, 53, 54, 55, 56, 57, 58, 59, 60, 61, 62, 63, 64, 65, 66, 67, 68, 69, 70, 71, 72, 73, 74, 75, 76, 77, 78, 79, 80, 81, 82, 83, 84, 85, 86, 87, 88, 89, 90, 91, 92, 93, 94, 95, 96, 97, 98, 99, 100, 101, 102, 103, 104, 105, 106, 107, 108, 109, 110, 111, 112, 113, 114, 115, 116, 117, 118, 119, 120, 121, 122, 123, 124, 125, 126, 127, 128, 129, 130, 131, 132, 133, 134, 135, 136, 137, 138, 139, 140, 141, 142, 143, 144, 145, 146, 147, 148, 149, 150, 151, 152, 153, 154, 155, 156, 157, 158, 159, 160, 161, 162, 163, 164, 165, 166, 167, 168, 169, 170, 171, 172, 173, 174, 175, 176, 177, 178, 179, 180, 181, 182, 183, 184, 185, 186, 187, 188, 189, 190, 191, 192, 193, 194, 195, 196, 197, 198, 199, 200, 201, 202, 203, 204, 205, 206, 207, 208, 209, 210, 211, 212, 213, 214, 215, 216, 217, 218, 318, 319, 320, 321, 322, 323, 324, 325, 326, 327, 328, 329, 330, 331, 332, 333, 334, 335, 336, 337, 338, 339, 340, 341] (by decide +kernel) (by decide +kernel)
set_option maxRecDepth 20000 in
theorem gX8_load_X5_read : GoodIn wsX8_load (wsV RX8 52 RX5 yX5_read wsX5_read) := goodIn_app (goodIn_of _ (by decide +kernel)) ggX8_load_X5_read
set_option maxRecDepth 20000 in
theorem ggX8_state_X8_refuseWhatOutside : GoodIn wsX8_state wsX8_refuseWhatOutside := goodIn_ca (goodIn_r _ [6, 7, 8] (by decide +kernel) (by decide +kernel)) (goodIn_sub (fun _ h => List.mem_cons_of_mem _ (List.mem_append_right _ h)) (by decide +kernel))
set_option maxRecDepth 20000 in
theorem gX8_state_X8_refuseWhatOutside : GoodIn wsX8_state (wsV RX8 74 RX8 yX8_refuseWhatOutside wsX8_refuseWhatOutside) := goodIn_app (goodIn_of _ (by decide +kernel)) ggX8_state_X8_refuseWhatOutside
set_option maxRecDepth 20000 in
theorem ggX8_state_X7_count : GoodIn wsX8_state wsX7_count := goodIn_r _ [13, 14, 15, 16, 17, 18, 19, 20, 21, 22, 23, 24, 25, 26, 27, 12, 28, 29, 30, 31, 32, 33, 34, 35, 36, 37, 38, 39, 40, 41, 42, 43, 44, 45, 46, 47, 48, 49, 50, 51, 52, 53, 54, 55, 56, 57, 58, 59, 60, 61, 62, 63, 64, 65, 66, 67, 68, 69, 70, 71, 72, 73, 74, 75, 76, 77, 78, 79, 80, 81, 82, 83, 84, 85, 86, 87, 88, 89, 90, 91, 92, 93, 94, 95, 96, 104, 105, 106, 107, 108, 109, 110, 111, 112, 113, 114, 115, 116, 117, 118, 119, 120, 121, 122, 123, 124, 125, 126, 127, 128, 129, 130, 131, 132, 133, 134, 135, 136, 137, 138, 139, 140, 141, 142] (by decide +kernel) (by decide +kernel)
set_option maxRecDepth 20000 in
theorem gX8_state_X7_count : GoodIn wsX8_state (wsV RX8 78 RX7 yX7_count wsX7_count) := goodIn_app (goodIn_of _ (by decide +kernel)) ggX8_state_X7_count
set_option maxRecDepth 20000 in
theorem ggX8_player_X8_refuseNoPlayer : GoodIn wsX8_player wsX8_refuseNoPlayer := goodIn_ca (goodIn_r _ [6, 7, 8, 1, 47, 48, 49, 50, 51, 52, 53, 54, 55, 56, 57, 58, 59, 60, 61, 62, 63, 64, 65, 66, 67, 68, 69, 70, 71, 72, 73, 74, 75, 76, 77] (by decide +kernel) (by decide +kernel)) (goodIn_sub (fun _ h => List.mem_cons_of_mem _ (List.mem_append_left _ (List.mem_append_right _ h))) (by decide +kernel))
set_option maxRecDepth 20000 in
theorem gX8_player_X8_refuseNoPlayer : GoodIn wsX8_player (wsV RX8 82 RX8 yX8_refuseNoPlayer wsX8_refuseNoPlayer) := goodIn_app (goodIn_of _ (by decide +kernel)) ggX8_player_X8_refuseNoPlayer
set_option maxRecDepth 20000 in
theorem ggX8_player_X8_refuseWhatOutside : GoodIn wsX8_player wsX8_refuseWhatOutside := goodIn_ca (goodIn_r _ [12, 13, 14] (by decide +kernel) (by decide +kernel)) (goodIn_sub (fun _ h => List.mem_cons_of_mem _ (List.mem_append_right _ h)) (by decide +kernel))
set_option maxRecDepth 20000 in
theorem gX8_player_X8_refuseWhatOutside : GoodIn wsX8_player (wsV RX8 74 RX8 yX8_refuseWhatOutside wsX8_refuseWhatOutside) := goodIn_app (goodIn_of _ (by decide +kernel)) ggX8_player_X8_refuseWhatOutside
set_option maxRecDepth 20000 in
theorem ggX8_player_X7_tellPlayer : GoodIn wsX8_player wsX7_tellPlayer := goodIn_r _ [19, 20, 21, 22, 18, 23, 24, 25, 26, 27, 28, 29, 30, 31, 32, 33, 34, 35, 36, 37, 38, 39, 40, 41, 42, 43, 44, 45, 46, 78, 79, 80, 81, 82, 83, 84, 85, 86, 87, 54, 55, 56, 57, 58, 59, 60, 61, 62, 63, 64, 65, 66, 67, 68, 69, 70, 71, 72, 73, 74, 75, 76, 77] (by decide +kernel) (by decide +kernel)
set_option maxRecDepth 20000 in
theorem gX8_player_X7_tellPlayer : GoodIn wsX8_player (wsV RX8 85 RX7 yX7_tellPlayer wsX7_tellPlayer) := goodIn_app (goodIn_of _ (by decide +kernel)) ggX8_player_X7_tellPlayer
set_option maxRecDepth 20000 in
theorem ggX8_link_X8_refuseNoPlayer : GoodIn wsX8_link wsX8_refuseNoPlayer := goodIn_ca (goodIn_r _ [6, 7, 8, 1, 30, 31, 32, 33, 34, 35, 36, 37, 38, 39, 40, 41, 42, 43, 44, 45, 46, 47, 48, 49, 50, 51, 52, 53, 54, 55, 56, 57, 58, 59, 60] (by decide +kernel) (by decide +kernel)) (goodIn_sub (fun _ h => List.mem_cons_of_mem _ (List.mem_append_right _ h)) (by decide +kernel))
set_option maxRecDepth 20000 in
theorem gX8_link_X8_refuseNoPlayer : GoodIn wsX8_link (wsV RX8 82 RX8 yX8_refuseNoPlayer wsX8_refuseNoPlayer) := goodIn_app (goodIn_of _ (by decide +kernel)) ggX8_link_X8_refuseNoPlayer
set_option maxRecDepth 20000 in
theorem ggX8_link_X7_isCut : GoodIn wsX8_link wsX7_isCut := goodIn_r _ [13, 14, 15, 16, 17, 18, 37, 38, 39, 40, 41, 42, 43, 44, 45, 46, 47, 48, 49, 50, 51, 52] (by decide +kernel) (by decide +kernel)
set_option maxRecDepth 20000 in
theorem gX8_link_X7_isCut : GoodIn wsX8_link (wsV RX8 89 RX7 yX7_isCut wsX7_isCut) := goodIn_app (goodIn_of _ (by decide +kernel)) ggX8_link_X7_isCut
set_option maxRecDepth 20000 in
theorem ggX8_link_X7_delay : GoodIn wsX8_link wsX7_delay := goodIn_r _ [22, 23, 24, 25, 26, 17, 27, 28, 29, 16, 18, 37, 38, 39, 40, 41, 42, 43, 44, 45, 46, 47, 48, 49, 50, 51, 52, 53, 54, 55, 56, 57, 58, 59, 60] (by decide +kernel) (by decide +kernel)
set_option maxRecDepth 20000 in
theorem gX8_link_X7_delay : GoodIn wsX8_link (wsV RX8 93 RX7 yX7_delay wsX7_delay) := goodIn_app (goodIn_of _ (by decide +kernel)) ggX8_link_X7_delay
set_option maxRecDepth 20000 in
theorem ggX8_spread_X4_spreadOfChanges : GoodIn wsX8_spread wsX4_spreadOfChanges := goodIn_r _ [6, 7, 8, 32, 33, 34, 35, 36, 37, 38, 39] (by decide +kernel) (by decide +kernel)
set_option maxRecDepth 20000 in
theorem gX8_spread_X4_spreadOfChanges : GoodIn wsX8_spread (wsV RX8 127 RX4 yX4_spreadOfChanges wsX4_spreadOfChanges) := goodIn_app (goodIn_of _ (by decide +kernel)) ggX8_spread_X4_spreadOfChanges
set_option maxRecDepth 20000 in
theorem ggX8_foretold_X8_refuseWhatOutside : GoodIn wsX8_foretold wsX8_refuseWhatOutside := goodIn_ca (goodIn_r _ [7, 8, 9] (by decide +kernel) (by decide +kernel)) (goodIn_sub (fun _ h => List.mem_cons_of_mem _ (List.mem_append_right _ h)) (by decide +kernel))
set_option maxRecDepth 20000 in
theorem gX8_foretold_X8_refuseWhatOutside : GoodIn wsX8_foretold (wsV RX8 74 RX8 yX8_refuseWhatOutside wsX8_refuseWhatOutside) := goodIn_app (goodIn_of _ (by decide +kernel)) ggX8_foretold_X8_refuseWhatOutside
set_option maxRecDepth 20000 in
theorem ggX8_foretold_X7_copyFrom : GoodIn wsX8_foretold wsX7_copyFrom := goodIn_r _ [14, 15, 16, 17, 18, 19, 20, 21, 22, 23, 24, 25, 26, 27, 28, 29, 30, 31, 13, 32, 33, 34, 35, 36, 37, 38, 39, 40, 41, 42, 43, 44, 45, 46, 47, 48, 49, 50, 51, 52, 53, 54, 55, 56, 57, 58, 59, 60, 61, 62, 63, 64, 65, 66, 67, 68, 69, 70, 71, 72, 73, 74, 75, 76, 77, 204, 205, 206, 207, 208, 209, 210, 211, 212, 213, 214, 215, 216, 217, 218, 219, 228, 229, 230, 231, 232, 233, 234, 235, 236, 237, 238, 239, 240, 220, 221, 222, 223, 224, 225, 226, 227] (by decide +kernel) (by decide +kernel)
set_option maxRecDepth 20000 in
theorem gX8_foretold_X7_copyFrom : GoodIn wsX8_foretold (wsV RX8 131 RX7 yX7_copyFrom wsX7_copyFrom) := goodIn_app (goodIn_of _ (by decide +kernel)) ggX8_foretold_X7_copyFrom
set_option maxRecDepth 20000 in
theorem ggX8_foretold_X7_runOn : GoodIn wsX8_foretold wsX7_runOn := goodIn_r _ [81, 28, 18, 82, 83, 84, 13, 85, 17, 15, 29, 30, 31, 32, 16, 86, 87, 88, 89, 20, 90, 91, 92, 93, 51, 94, 54, 95, 96, 97, 98, 53, 99, 100, 101, 102, 23, 21, 103, 104, 105, 106, 107, 108, 109, 110, 111, 112, 113, 114, 115, 116, 117, 118, 22, 119, 120, 121, 122, 123, 124, 125, 126, 127, 128, 129, 130, 19, 131, 132, 133, 134, 135, 64, 59, 55, 56, 57, 58, 60, 61, 62, 63, 136, 137, 138, 36, 139, 42, 41, 43, 44, 140, 141, 142, 143, 24, 144, 145, 146, 147, 148, 149, 150, 151, 25, 152, 153, 154, 155, 156, 157, 158, 159, 160, 161, 162, 163, 26, 164, 165, 166, 167, 27, 168, 169, 170, 171, 172, 173, 174, 175, 38, 176, 177, 178, 68, 179, 76, 77, 180, 181, 182, 183, 40, 45, 46, 47, 184, 204, 205, 206, 207, 208, 209, 210, 211, 212, 213, 214, 215, 216, 217, 218, 219, 220, 221, 222, 223, 224, 225, 226, 227, 238, 239, 240, 241, 242, 243, 244, 245, 246, 247, 248, 228, 229, 230, 231, 232, 233, 234, 235, 236, 237, 249, 250, 251, 252, 253, 254, 255] (by decide +kernel) (by decide +kernel)
set_option maxRecDepth 20000 in
theorem gX8_foretold_X7_runOn : GoodIn wsX8_foretold (wsV RX8 135 RX7 yX7_runOn wsX7_runOn) := goodIn_app (goodIn_of _ (by decide +kernel)) ggX8_foretold_X7_runOn
set_option maxRecDepth 20000 in
theorem ggX8_foretold_X4_spreadOfChanges : GoodIn wsX8_foretold wsX4_spreadOfChanges := goodIn_r _ [188, 76, 77, 220, 221, 222, 223, 224, 225, 226, 227] (by decide +kernel) (by decide +kernel)
set_option maxRecDepth 20000 in
theorem gX8_foretold_X4_spreadOfChanges : GoodIn wsX8_foretold (wsV RX8 127 RX4 yX4_spreadOfChanges wsX4_spreadOfChanges) := goodIn_app (goodIn_of _ (by decide +kernel)) ggX8_foretold_X4_spreadOfChanges
set_option maxRecDepth 20000 in
theorem ggX8_foretold_X7_countSongs : GoodIn wsX8_foretold wsX7_countSongs := goodIn_r _ [192, 15, 29, 30, 31, 13, 32, 16, 193, 194, 195, 196, 204, 205, 206, 207, 208, 209, 210, 211, 212, 213, 214, 215, 216, 217, 218, 219, 241, 242, 243, 244, 245, 246, 247, 248, 228, 229, 230, 231, 232, 233, 234, 235, 236, 237] (by decide +kernel) (by decide +kernel)
set_option maxRecDepth 20000 in
theorem gX8_foretold_X7_countSongs : GoodIn wsX8_foretold (wsV RX8 142 RX7 yX7_countSongs wsX7_countSongs) := goodIn_app (goodIn_of _ (by decide +kernel)) ggX8_foretold_X7_countSongs
set_option maxRecDepth 20000 in
theorem ggX8_safest_X7_canPropose : GoodIn wsX8_safest wsX7_canPropose := goodIn_r _ [7, 8, 9, 10, 11, 12, 6, 13, 14, 197, 198, 199, 200, 201, 202, 203, 204, 205, 206, 207, 208, 209, 210, 211, 212, 221, 222, 223, 224, 225, 226, 227, 228, 229, 230, 213, 214, 215, 216, 217, 218, 219, 220] (by decide +kernel) (by decide +kernel)
set_option maxRecDepth 20000 in
theorem gX8_safest_X7_canPropose : GoodIn wsX8_safest (wsV RX8 148 RX7 yX7_canPropose wsX7_canPropose) := goodIn_app (goodIn_of _ (by decide +kernel)) ggX8_safest_X7_canPropose
set_option maxRecDepth 20000 in
theorem ggX8_safest_X7_copyFrom : GoodIn wsX8_safest wsX7_copyFrom := goodIn_r _ [18, 19, 14, 20, 9, 21, 22, 8, 23, 24, 25, 26, 27, 28, 29, 10, 11, 12, 6, 13, 30, 31, 32, 33, 34, 35, 36, 37, 38, 39, 40, 41, 42, 43, 44, 45, 46, 47, 48, 49, 50, 51, 52, 53, 54, 55, 56, 57, 58, 59, 60, 61, 62, 63, 64, 65, 66, 67, 68, 69, 70, 71, 72, 73, 74, 197, 198, 199, 200, 201, 202, 203, 204, 205, 206, 207, 208, 209, 210, 211, 212, 221, 222, 223, 224, 225, 226, 227, 228, 229, 230, 231, 232, 233, 213, 214, 215, 216, 217, 218, 219, 220] (by decide +kernel) (by decide +kernel)
set_option maxRecDepth 20000 in
theorem gX8_safest_X7_copyFrom : GoodIn wsX8_safest (wsV RX8 131 RX7 yX7_copyFrom wsX7_copyFrom) := goodIn_app (goodIn_of _ (by decide +kernel)) ggX8_safest_X7_copyFrom
set_option maxRecDepth 20000 in
theorem ggX8_safest_X7_startProposal : GoodIn wsX8_safest wsX7_startProposal := goodIn_r _ [78, 9, 8, 22, 19, 25, 79, 80, 81, 6, 82, 83, 84, 85, 86, 87, 88, 89, 90, 91, 92, 65, 93, 67, 68, 69, 70, 71, 72, 73, 10, 11, 12, 13, 14, 94, 95, 96, 33, 97, 39, 38, 40, 41, 98, 99, 100, 101, 102, 103, 104, 105, 106, 23, 20, 24, 107, 108, 109, 110, 111, 112, 113, 114, 115, 116, 117, 118, 21, 119, 120, 121, 122, 48, 123, 61, 51, 50, 56, 52, 53, 54, 55, 57, 58, 59, 60, 124, 125, 126, 127, 26, 197, 198, 199, 200, 201, 202, 203, 204, 205, 206, 207, 208, 209, 210, 211, 212, 234, 235, 236, 237, 238, 239, 240, 241, 213, 214, 215, 216, 217, 218, 219, 220, 221, 222, 223, 224, 225, 226, 227, 228, 229, 230, 242, 243, 244, 245, 246, 247, 248, 231, 232, 233] (by decide +kernel) (by decide +kernel)
set_option maxRecDepth 20000 in
theorem gX8_safest_X7_startProposal : GoodIn wsX8_safest (wsV RX8 152 RX7 yX7_startProposal wsX7_startProposal) := goodIn_app (goodIn_of _ (by decide +kernel)) ggX8_safest_X7_startProposal
set_option maxRecDepth 20000 in
theorem ggX8_safest_X7_runOn : GoodIn wsX8_safest wsX7_runOn := goodIn_r _ [131, 29, 9, 132, 133, 134, 6, 135, 20, 19, 10, 11, 12, 13, 14, 136, 137, 138, 139, 22, 140, 141, 142, 143, 48, 144, 51, 145, 146, 147, 148, 50, 149, 150, 151, 152, 24, 8, 79, 80, 81, 82, 83, 84, 85, 86, 87, 88, 89, 102, 103, 104, 105, 106, 23, 107, 108, 109, 110, 111, 112, 113, 114, 115, 116, 117, 118, 21, 119, 120, 121, 122, 123, 61, 56, 52, 53, 54, 55, 57, 58, 59, 60, 94, 95, 96, 33, 97, 39, 38, 40, 41, 153, 154, 155, 156, 25, 157, 158, 159, 160, 124, 125, 126, 127, 26, 98, 99, 100, 101, 161, 162, 163, 164, 165, 166, 167, 168, 27, 169, 170, 171, 172, 28, 173, 174, 175, 176, 177, 178, 179, 180, 35, 181, 182, 183, 65, 184, 73, 74, 185, 186, 187, 188, 37, 42, 43, 44, 189, 197, 198, 199, 200, 201, 202, 203, 204, 205, 206, 207, 208, 209, 210, 211, 212, 213, 214, 215, 216, 217, 218, 219, 220, 231, 232, 233, 234, 235, 236, 237, 238, 239, 240, 241, 221, 222, 223, 224, 225, 226, 227, 228, 229, 230, 242, 243, 244, 245, 246, 247, 248] (by decide +kernel) (by decide +kernel)
set_option maxRecDepth 20000 in
theorem gX8_safest_X7_runOn : GoodIn wsX8_safest (wsV RX8 135 RX7 yX7_runOn wsX7_runOn) := goodIn_app (goodIn_of _ (by decide +kernel)) ggX8_safest_X7_runOn
set_option maxRecDepth 20000 in
theorem ggX8_meanError_X7_at : GoodIn wsX8_meanError wsX7_at := goodIn_r _ [10, 11, 46, 47, 48, 49, 50, 51, 52, 53, 54, 55, 56, 57, 58, 59, 60, 61] (by decide +kernel) (by decide +kernel)
set_option maxRecDepth 20000 in
theorem gX8_meanError_X7_at : GoodIn wsX8_meanError (wsV RX8 159 RX7 yX7_at wsX7_at) := goodIn_app (goodIn_of _ (by decide +kernel)) ggX8_meanError_X7_at
set_option maxRecDepth 20000 in
theorem ggX8_meanError_X7_error : GoodIn wsX8_meanError wsX7_error := goodIn_r _ [15, 16, 17, 18, 19, 9, 20, 21, 22, 23, 24, 25, 26, 27, 28, 29, 30, 31, 32, 33, 34, 7, 8, 10, 11, 46, 47, 48, 49, 50, 51, 52, 53, 54, 55, 56, 57, 58, 59, 60, 61, 70, 71, 72, 73, 74, 75, 76, 77, 78, 79, 62, 63, 64, 65, 66, 67, 68, 69] (by decide +kernel) (by decide +kernel)
set_option maxRecDepth 20000 in
theorem gX8_meanError_X7_error : GoodIn wsX8_meanError (wsV RX8 169 RX7 yX7_error wsX7_error) := goodIn_app (goodIn_of _ (by decide +kernel)) ggX8_meanError_X7_error
set_option maxRecDepth 20000 in
theorem ggX8_meanError_X7_countUp : GoodIn wsX8_meanError wsX7_countUp := goodIn_r _ [38, 25, 34, 7, 8, 9, 10, 11, 46, 47, 48, 49, 50, 51, 52, 53, 54, 55, 56, 57, 58, 59, 60, 61, 62, 63, 64, 65, 66, 67, 68, 69, 70, 71, 72, 73, 74, 75, 76, 77, 78, 79] (by decide +kernel) (by decide +kernel)
set_option maxRecDepth 20000 in
theorem gX8_meanError_X7_countUp : GoodIn wsX8_meanError (wsV RX8 177 RX7 yX7_countUp wsX7_countUp) := goodIn_app (goodIn_of _ (by decide +kernel)) ggX8_meanError_X7_countUp
set_option maxRecDepth 20000 in
theorem ggX8_propose_X7_canPropose : GoodIn wsX8_propose wsX7_canPropose := goodIn_r _ [10, 11, 12, 13, 14, 15, 9, 16, 17, 187, 188, 189, 190, 191, 192, 193, 194, 195, 196, 197, 198, 199, 200, 201, 202, 211, 212, 213, 214, 215, 216, 217, 218, 219, 220, 203, 204, 205, 206, 207, 208, 209, 210] (by decide +kernel) (by decide +kernel)
set_option maxRecDepth 20000 in
theorem gX8_propose_X7_canPropose : GoodIn wsX8_propose (wsV RX8 148 RX7 yX7_canPropose wsX7_canPropose) := goodIn_app (goodIn_of _ (by decide +kernel)) ggX8_propose_X7_canPropose
set_option maxRecDepth 20000 in
theorem ggX8_propose_X8_keepForUndo : GoodIn wsX8_propose wsX8_keepForUndo := goodIn_r _ [22, 23, 24, 5, 25, 26, 27, 28, 9, 29, 30, 17, 31, 12, 32, 33, 11, 34, 35, 36, 37, 38, 39, 40, 13, 14, 15, 16, 41, 42, 43, 44, 45, 46, 47, 48, 49, 50, 51, 52, 53, 54, 55, 56, 57, 58, 59, 60, 61, 62, 63, 64, 65, 66, 67, 68, 69, 70, 71, 72, 73, 74, 75, 76, 77, 78, 79, 80, 81, 82, 83, 84, 85, 180, 181, 182, 183, 184, 185, 186, 187, 188, 189, 190, 191, 192, 193, 194, 195, 196, 197, 198, 199, 200, 201, 202, 211, 212, 213, 214, 215, 216, 217, 218, 219, 220, 221, 222, 223, 203, 204, 205, 206, 207, 208, 209, 210] (by decide +kernel) (by decide +kernel)
set_option maxRecDepth 20000 in
theorem gX8_propose_X8_keepForUndo : GoodIn wsX8_propose (wsV RX8 62 RX8 yX8_keepForUndo wsX8_keepForUndo) := goodIn_app (goodIn_of _ (by decide +kernel)) ggX8_propose_X8_keepForUndo
set_option maxRecDepth 20000 in
theorem ggX8_propose_X7_margin : GoodIn wsX8_propose wsX7_margin := goodIn_r _ [89, 30, 90, 64, 65, 66, 91, 92, 93, 94, 95, 96, 9, 97, 98, 99, 100, 101, 32, 102, 103, 104, 105, 106, 107, 108, 109, 110, 111, 112, 113, 114, 115, 116, 117, 118, 119, 13, 14, 15, 16, 17, 120, 121, 122, 123, 124, 125, 126, 127, 128, 129, 130, 131, 132, 133, 134, 135, 136, 137, 138, 139, 140, 187, 188, 189, 190, 191, 192, 193, 194, 195, 196, 197, 198, 199, 200, 201, 202, 224, 225, 226, 227, 228, 229, 230, 231, 211, 212, 213, 214, 215, 216, 217, 218, 219, 220, 232, 233] (by decide +kernel) (by decide +kernel)
set_option maxRecDepth 20000 in
theorem gX8_propose_X7_margin : GoodIn wsX8_propose (wsV RX8 187 RX7 yX7_margin wsX7_margin) := goodIn_app (goodIn_of _ (by decide +kernel)) ggX8_propose_X7_margin
set_option maxRecDepth 20000 in
theorem ggX8_propose_X7_startProposal : GoodIn wsX8_propose wsX7_startProposal := goodIn_r _ [144, 12, 11, 33, 30, 36, 145, 146, 147, 9, 148, 149, 150, 151, 104, 152, 153, 154, 155, 156, 157, 76, 158, 78, 79, 80, 81, 82, 83, 84, 13, 14, 15, 16, 17, 159, 160, 161, 44, 162, 50, 49, 51, 52, 163, 164, 165, 166, 167, 168, 169, 170, 171, 34, 31, 35, 110, 111, 112, 113, 114, 115, 103, 105, 98, 99, 100, 101, 32, 102, 172, 173, 174, 59, 175, 72, 62, 61, 67, 63, 64, 65, 66, 68, 69, 70, 71, 176, 177, 178, 179, 37, 187, 188, 189, 190, 191, 192, 193, 194, 195, 196, 197, 198, 199, 200, 201, 202, 224, 225, 226, 227, 228, 229, 230, 231, 203, 204, 205, 206, 207, 208, 209, 210, 211, 212, 213, 214, 215, 216, 217, 218, 219, 220, 234, 235, 236, 237, 238, 239, 240, 221, 222, 223] (by decide +kernel) (by decide +kernel)
set_option maxRecDepth 20000 in
theorem gX8_propose_X7_startProposal : GoodIn wsX8_propose (wsV RX8 152 RX7 yX7_startProposal wsX7_startProposal) := goodIn_app (goodIn_of _ (by decide +kernel)) ggX8_propose_X7_startProposal
set_option maxRecDepth 20000 in
theorem ggX8_ask_X8_refuseNoPlayer : GoodIn wsX8_ask wsX8_refuseNoPlayer := goodIn_ca (goodIn_r _ [8, 9, 10, 3, 124, 125, 126, 127, 128, 129, 130, 141, 142, 143, 144, 145, 146, 147, 148, 149, 150, 151, 152, 153, 154, 155, 156, 157, 158, 159, 160, 161, 162, 163, 164] (by decide +kernel) (by decide +kernel)) (goodIn_sub (fun _ h => List.mem_cons_of_mem _ (List.mem_append_right _ h)) (by decide +kernel))
set_option maxRecDepth 20000 in
theorem gX8_ask_X8_refuseNoPlayer : GoodIn wsX8_ask (wsV RX8 82 RX8 yX8_refuseNoPlayer wsX8_refuseNoPlayer) := goodIn_app (goodIn_of _ (by decide +kernel)) ggX8_ask_X8_refuseNoPlayer
set_option maxRecDepth 20000 in
theorem ggX8_ask_X7_at : GoodIn wsX8_ask wsX7_at := goodIn_r _ [15, 16, 141, 142, 143, 144, 145, 146, 147, 148, 149, 150, 151, 152, 153, 154, 155, 156] (by decide +kernel) (by decide +kernel)
set_option maxRecDepth 20000 in
theorem gX8_ask_X7_at : GoodIn wsX8_ask (wsV RX8 159 RX7 yX7_at wsX7_at) := goodIn_app (goodIn_of _ (by decide +kernel)) ggX8_ask_X7_at
set_option maxRecDepth 20000 in
theorem ggX8_pass_X8_keepForUndo : GoodIn wsX8_pass wsX8_keepForUndo := goodIn_r _ [8, 9, 10, 3, 11, 12, 13, 14, 15, 16, 17, 18, 19, 20, 21, 22, 23, 24, 25, 26, 27, 28, 29, 30, 31, 32, 33, 34, 35, 36, 37, 38, 39, 40, 41, 42, 43, 44, 45, 46, 47, 48, 49, 50, 51, 52, 53, 54, 55, 56, 57, 58, 59, 60, 61, 62, 63, 64, 65, 66, 67, 68, 69, 70, 71, 72, 73, 74, 75, 76, 77, 78, 79, 179, 180, 181, 182, 183, 184, 185, 186, 187, 188, 189, 190, 191, 192, 193, 194, 195, 196, 197, 198, 199, 200, 201, 202, 203, 204, 205, 206, 207, 208, 209, 210, 211, 212, 213, 214, 215, 216, 217, 218, 219, 220, 221, 222] (by decide +kernel) (by decide +kernel)
set_option maxRecDepth 20000 in
theorem gX8_pass_X8_keepForUndo : GoodIn wsX8_pass (wsV RX8 62 RX8 yX8_keepForUndo wsX8_keepForUndo) := goodIn_app (goodIn_of _ (by decide +kernel)) ggX8_pass_X8_keepForUndo
set_option maxRecDepth 20000 in
theorem ggX8_pass_X7_tick : GoodIn wsX8_pass wsX7_tick := goodIn_r _ [83, 22, 19, 84, 20, 17, 85, 86, 87, 53, 88, 56, 89, 90, 91, 92, 55, 93, 94, 95, 15, 96, 25, 23, 31, 32, 33, 34, 18, 97, 98, 99, 100, 101, 102, 103, 104, 105, 106, 107, 108, 109, 110, 111, 112, 24, 113, 114, 115, 116, 117, 118, 119, 120, 121, 122, 123, 124, 21, 125, 126, 127, 128, 129, 66, 61, 57, 58, 59, 60, 62, 63, 64, 65, 130, 131, 132, 38, 133, 44, 43, 45, 46, 134, 135, 136, 137, 26, 138, 139, 140, 141, 142, 143, 144, 145, 27, 146, 147, 148, 149, 150, 151, 152, 153, 154, 155, 156, 157, 28, 158, 159, 160, 161, 29, 30, 162, 163, 164, 165, 166, 167, 168, 169, 40, 170, 171, 172, 70, 173, 78, 79, 174, 175, 176, 177, 42, 47, 48, 49, 178, 186, 187, 188, 189, 190, 191, 192, 193, 194, 195, 196, 197, 198, 199, 200, 201, 215, 216, 217, 218, 219, 220, 221, 222, 223, 224, 225, 226, 227, 228, 229, 230, 212, 213, 214, 231, 232, 233, 234, 235, 236, 237, 202, 203, 204, 205, 206, 207, 208, 209, 210, 211] (by decide +kernel) (by decide +kernel)
set_option maxRecDepth 20000 in
theorem gX8_pass_X7_tick : GoodIn wsX8_pass (wsV RX8 206 RX7 yX7_tick wsX7_tick) := goodIn_app (goodIn_of _ (by decide +kernel)) ggX8_pass_X7_tick
set_option maxRecDepth 20000 in
theorem ggX8_power_X8_refuseNoPlayer : GoodIn wsX8_power wsX8_refuseNoPlayer := goodIn_ca (goodIn_r _ [6, 7, 8, 1, 93, 94, 95, 96, 97, 98, 99, 100, 101, 102, 103, 104, 105, 106, 107, 108, 109, 110, 111, 112, 113, 114, 115, 116, 117, 118, 119, 120, 121, 122, 123] (by decide +kernel) (by decide +kernel)) (goodIn_sub (fun _ h => List.mem_cons_of_mem _ (List.mem_append_right _ h)) (by decide +kernel))
set_option maxRecDepth 20000 in
theorem gX8_power_X8_refuseNoPlayer : GoodIn wsX8_power (wsV RX8 82 RX8 yX8_refuseNoPlayer wsX8_refuseNoPlayer) := goodIn_app (goodIn_of _ (by decide +kernel)) ggX8_power_X8_refuseNoPlayer
set_option maxRecDepth 20000 in
theorem ggX8_power_X8_keepForUndo : GoodIn wsX8_power wsX8_keepForUndo := goodIn_r _ [12, 13, 14, 1, 15, 16, 17, 18, 19, 20, 21, 22, 23, 24, 25, 26, 27, 28, 29, 30, 31, 32, 33, 34, 35, 36, 37, 38, 39, 40, 41, 42, 43, 44, 45, 46, 47, 48, 49, 50, 51, 52, 53, 54, 55, 56, 57, 58, 59, 60, 61, 62, 63, 64, 65, 66, 67, 68, 69, 70, 71, 72, 73, 74, 75, 76, 77, 78, 79, 80, 81, 82, 83, 93, 94, 95, 96, 97, 98, 99, 100, 101, 102, 103, 104, 105, 106, 107, 108, 109, 110, 111, 112, 113, 114, 115, 124, 125, 126, 127, 128, 129, 130, 131, 132, 133, 134, 135, 136, 137, 138, 139, 140, 141, 142, 143, 144] (by decide +kernel) (by decide +kernel)
set_option maxRecDepth 20000 in
theorem gX8_power_X8_keepForUndo : GoodIn wsX8_power (wsV RX8 62 RX8 yX8_keepForUndo wsX8_keepForUndo) := goodIn_app (goodIn_of _ (by decide +kernel)) ggX8_power_X8_keepForUndo
set_option maxRecDepth 20000 in
theorem ggX8_power_X7_at : GoodIn wsX8_power wsX7_at := goodIn_r _ [38, 22, 100, 101, 102, 103, 104, 105, 106, 107, 108, 109, 110, 111, 112, 113, 114, 115] (by decide +kernel) (by decide +kernel)
set_option maxRecDepth 20000 in
theorem gX8_power_X7_at : GoodIn wsX8_power (wsV RX8 159 RX7 yX7_at wsX7_at) := goodIn_app (goodIn_of _ (by decide +kernel)) ggX8_power_X7_at
set_option maxRecDepth 20000 in
theorem ggX8_power_X3_turn : GoodIn wsX8_power wsX3_turn := goodIn_r _ [88, 44, 89, 90, 91, 42, 92, 47, 48, 124, 125, 126, 127, 128, 129, 130, 131, 132, 133] (by decide +kernel) (by decide +kernel)
set_option maxRecDepth 20000 in
theorem gX8_power_X3_turn : GoodIn wsX8_power (wsV RX8 209 RX3 yX3_turn wsX3_turn) := goodIn_app (goodIn_of _ (by decide +kernel)) ggX8_power_X3_turn
set_option maxRecDepth 20000 in
theorem ggX8_cut_X8_refuseNoPlayer : GoodIn wsX8_cut wsX8_refuseNoPlayer := goodIn_ca (goodIn_r _ [8, 9, 10, 3, 109, 110, 111, 112, 113, 114, 115, 116, 117, 118, 119, 120, 121, 122, 123, 124, 125, 126, 127, 128, 129, 130, 131, 132, 133, 134, 135, 136, 137, 138, 139] (by decide +kernel) (by decide +kernel)) (goodIn_sub (fun _ h => List.mem_cons_of_mem _ (List.mem_append_right _ h)) (by decide +kernel))
set_option maxRecDepth 20000 in
theorem gX8_cut_X8_refuseNoPlayer : GoodIn wsX8_cut (wsV RX8 82 RX8 yX8_refuseNoPlayer wsX8_refuseNoPlayer) := goodIn_app (goodIn_of _ (by decide +kernel)) ggX8_cut_X8_refuseNoPlayer
set_option maxRecDepth 20000 in
theorem ggX8_cut_X7_delay : GoodIn wsX8_cut wsX7_delay := goodIn_r _ [15, 16, 17, 18, 19, 20, 21, 22, 23, 24, 25, 116, 117, 118, 119, 120, 121, 122, 123, 124, 125, 126, 127, 128, 129, 130, 131, 132, 133, 134, 135, 136, 137, 138, 139] (by decide +kernel) (by decide +kernel)
set_option maxRecDepth 20000 in
theorem gX8_cut_X7_delay : GoodIn wsX8_cut (wsV RX8 93 RX7 yX7_delay wsX7_delay) := goodIn_app (goodIn_of _ (by decide +kernel)) ggX8_cut_X7_delay
set_option maxRecDepth 20000 in
theorem ggX8_lead_X8_refuseNoPlayer : GoodIn wsX8_lead wsX8_refuseNoPlayer := goodIn_ca (goodIn_r _ [6, 7, 8, 1, 88, 89, 90, 91, 92, 93, 94, 95, 96, 97, 98, 99, 100, 101, 102, 103, 104, 105, 106, 107, 108, 109, 110, 111, 112, 113, 114, 115, 116, 117, 118] (by decide +kernel) (by decide +kernel)) (goodIn_sub (fun _ h => List.mem_cons_of_mem _ (List.mem_append_right _ h)) (by decide +kernel))
set_option maxRecDepth 20000 in
theorem gX8_lead_X8_refuseNoPlayer : GoodIn wsX8_lead (wsV RX8 82 RX8 yX8_refuseNoPlayer wsX8_refuseNoPlayer) := goodIn_app (goodIn_of _ (by decide +kernel)) ggX8_lead_X8_refuseNoPlayer
set_option maxRecDepth 20000 in
theorem ggX8_lead_X8_keepForUndo : GoodIn wsX8_lead wsX8_keepForUndo := goodIn_r _ [12, 13, 14, 1, 15, 16, 17, 18, 19, 20, 21, 22, 23, 24, 25, 26, 27, 28, 29, 30, 31, 32, 33, 34, 35, 36, 37, 38, 39, 40, 41, 42, 43, 44, 45, 46, 47, 48, 49, 50, 51, 52, 53, 54, 55, 56, 57, 58, 59, 60, 61, 62, 63, 64, 65, 66, 67, 68, 69, 70, 71, 72, 73, 74, 75, 76, 77, 78, 79, 80, 81, 82, 83, 88, 89, 90, 91, 92, 93, 94, 95, 96, 97, 98, 99, 100, 101, 102, 103, 104, 105, 106, 107, 108, 109, 110, 119, 120, 121, 122, 123, 124, 125, 126, 127, 128, 129, 130, 131, 132, 133, 134, 135, 136, 137, 138, 139] (by decide +kernel) (by decide +kernel)
set_option maxRecDepth 20000 in
theorem gX8_lead_X8_keepForUndo : GoodIn wsX8_lead (wsV RX8 62 RX8 yX8_keepForUndo wsX8_keepForUndo) := goodIn_app (goodIn_of _ (by decide +kernel)) ggX8_lead_X8_keepForUndo
set_option maxRecDepth 20000 in
theorem ggX8_lead_X7_makeConductor : GoodIn wsX8_lead wsX7_makeConductor := goodIn_r _ [87, 27, 22, 35, 36, 37, 19, 38, 95, 96, 97, 98, 99, 100, 101, 102, 103, 104, 105, 106, 107, 108, 109, 110, 119, 120, 121, 122, 123, 124, 125, 126, 127, 128] (by decide +kernel) (by decide +kernel)
set_option maxRecDepth 20000 in
theorem gX8_lead_X7_makeConductor : GoodIn wsX8_lead (wsV RX8 219 RX7 yX7_makeConductor wsX7_makeConductor) := goodIn_app (goodIn_of _ (by decide +kernel)) ggX8_lead_X7_makeConductor
set_option maxRecDepth 20000 in
theorem ggX8_checksum_X7_count : GoodIn wsX8_checksum wsX7_count := goodIn_r _ [7, 8, 9, 10, 11, 12, 13, 14, 15, 16, 17, 18, 19, 20, 21, 6, 22, 23, 24, 25, 26, 27, 28, 29, 30, 31, 32, 33, 34, 35, 36, 37, 38, 39, 40, 41, 42, 43, 44, 45, 46, 47, 48, 49, 50, 51, 52, 53, 54, 55, 56, 57, 58, 59, 60, 61, 62, 63, 64, 65, 66, 67, 68, 69, 70, 71, 72, 73, 74, 75, 76, 77, 78, 79, 80, 81, 82, 83, 84, 85, 86, 87, 88, 89, 90, 163, 164, 165, 166, 167, 168, 169, 170, 171, 172, 173, 174, 175, 176, 177, 178, 179, 180, 181, 182, 183, 184, 185, 186, 187, 188, 189, 190, 191, 192, 193, 194, 195, 196, 197, 198, 199, 200, 201] (by decide +kernel) (by decide +kernel)
set_option maxRecDepth 20000 in
theorem gX8_checksum_X7_count : GoodIn wsX8_checksum (wsV RX8 78 RX7 yX7_count wsX7_count) := goodIn_app (goodIn_of _ (by decide +kernel)) ggX8_checksum_X7_count
set_option maxRecDepth 20000 in
theorem ggX8_checksum_X7_tellPlayer : GoodIn wsX8_checksum wsX7_tellPlayer := goodIn_r _ [94, 23, 24, 25, 6, 26, 27, 95, 96, 97, 98, 8, 9, 99, 100, 101, 54, 102, 103, 104, 105, 106, 107, 108, 10, 109, 110, 111, 112, 190, 191, 192, 193, 194, 195, 196, 197, 198, 199, 163, 164, 165, 166, 167, 168, 169, 170, 171, 172, 173, 174, 175, 176, 177, 178, 179, 180, 181, 182, 183, 184, 185, 186] (by decide +kernel) (by decide +kernel)
set_option maxRecDepth 20000 in
theorem gX8_checksum_X7_tellPlayer : GoodIn wsX8_checksum (wsV RX8 85 RX7 yX7_tellPlayer wsX7_tellPlayer) := goodIn_app (goodIn_of _ (by decide +kernel)) ggX8_checksum_X7_tellPlayer
set_option maxRecDepth 20000 in
theorem ggX8_keepForUndo_X7_copyFrom : GoodIn wsX8_keepForUndo wsX7_copyFrom := goodIn_r _ [9, 10, 11, 12, 13, 14, 15, 16, 17, 18, 19, 20, 21, 22, 23, 24, 25, 26, 8, 27, 28, 29, 30, 31, 32, 33, 34, 35, 36, 37, 38, 39, 40, 41, 42, 43, 44, 45, 46, 47, 48, 49, 50, 51, 52, 53, 54, 55, 56, 57, 58, 59, 60, 61, 62, 63, 64, 65, 66, 67, 68, 69, 70, 71, 72, 80, 81, 82, 83, 84, 85, 86, 87, 88, 89, 90, 91, 92, 93, 94, 95, 96, 97, 98, 99, 100, 101, 102, 103, 104, 105, 106, 107, 108, 109, 110, 111, 112, 113, 114, 115, 116] (by decide +kernel) (by decide +kernel)
set_option maxRecDepth 20000 in
theorem gX8_keepForUndo_X7_copyFrom : GoodIn wsX8_keepForUndo (wsV RX8 131 RX7 yX7_copyFrom wsX7_copyFrom) := goodIn_app (goodIn_of _ (by decide +kernel)) ggX8_keepForUndo_X7_copyFrom
set_option maxRecDepth 20000 in
theorem ggX9_init_X9_layPlayers : GoodIn wsX9_init wsX9_layPlayers := goodIn_r _ [18, 19, 20, 17, 21] (by decide +kernel) (by decide +kernel)
set_option maxRecDepth 20000 in
theorem gX9_init_X9_layPlayers : GoodIn wsX9_init (va_wsS RX9 36 yX9_layPlayers wsX9_layPlayers) := goodIn_app (goodIn_of _ (by decide +kernel)) ggX9_init_X9_layPlayers
set_option maxRecDepth 20000 in
theorem ggX9_layPlayers_X9_playerAt : GoodIn wsX9_layPlayers wsX9_playerAt := goodIn_r _ [4] (by decide +kernel) (by decide +kernel)
set_option maxRecDepth 20000 in
theorem gX9_layPlayers_X9_playerAt : GoodIn wsX9_layPlayers (va_wsS RX9 43 yX9_playerAt wsX9_playerAt) := goodIn_app (goodIn_of _ (by decide +kernel)) ggX9_layPlayers_X9_playerAt
set_option maxRecDepth 20000 in
theorem ggX9_ahead_X9_byteAt : GoodIn wsX9_ahead wsX9_byteAt := goodIn_r _ [6, 7, 8, 9, 10, 11, 12, 13, 14, 15, 16, 17, 18, 19, 20, 21, 22, 23, 24, 25, 26] (by decide +kernel) (by decide +kernel)
set_option maxRecDepth 20000 in
theorem gX9_ahead_X9_byteAt : GoodIn wsX9_ahead (wsV RX9 56 RX9 yX9_byteAt wsX9_byteAt) := goodIn_app (goodIn_of _ (by decide +kernel)) ggX9_ahead_X9_byteAt
set_option maxRecDepth 20000 in
theorem ggX9_load_X9_in : GoodIn wsX9_load wsX9_in := goodIn_r _ [16] (by decide +kernel) (by decide +kernel)
set_option maxRecDepth 20000 in
theorem gX9_load_X9_in : GoodIn wsX9_load (va_wsS RX9 65 yX9_in wsX9_in) := goodIn_app (goodIn_of _ (by decide +kernel)) ggX9_load_X9_in
set_option maxRecDepth 20000 in
theorem ggX9_load_X9_fails : GoodIn wsX9_load wsX9_fails := goodIn_r _ [20, 1, 161, 162, 163, 164, 165, 166, 167, 168, 169, 170, 171, 172, 173, 174, 175, 176, 177, 178] (by decide +kernel) (by decide +kernel)
set_option maxRecDepth 20000 in
theorem gX9_load_X9_fails : GoodIn wsX9_load (wsV RX9 167 RX9 yX9_fails wsX9_fails) := goodIn_app (goodIn_of _ (by decide +kernel)) ggX9_load_X9_fails
set_option maxRecDepth 20000 in
theorem ggX9_of_X9_playerAt : GoodIn wsX9_of wsX9_playerAt := goodIn_r _ [5] (by decide +kernel) (by decide +kernel)
set_option maxRecDepth 20000 in
theorem gX9_of_X9_playerAt : GoodIn wsX9_of (va_wsS RX9 43 yX9_playerAt wsX9_playerAt) := goodIn_app (goodIn_of _ (by decide +kernel)) ggX9_of_X9_playerAt
set_option maxRecDepth 20000 in
theorem ggX9_set_X9_playerAt : GoodIn wsX9_set wsX9_playerAt := goodIn_r _ [5] (by decide +kernel) (by decide +kernel)
set_option maxRecDepth 20000 in
theorem gX9_set_X9_playerAt : GoodIn wsX9_set (va_wsS RX9 43 yX9_playerAt wsX9_playerAt) := goodIn_app (goodIn_of _ (by decide +kernel)) ggX9_set_X9_playerAt
set_option maxRecDepth 20000 in
theorem ggX9_isUp_X9_of : GoodIn wsX9_isUp wsX9_of := goodIn_r _ [5, 6, 7, 8, 4, 9, 10, 11, 12, 13, 14, 15, 16, 17, 18, 19, 20, 21, 22, 23, 24, 25, 26, 27] (by decide +kernel) (by decide +kernel)
set_option maxRecDepth 20000 in
theorem gX9_isUp_X9_of : GoodIn wsX9_isUp (wsV RX9 181 RX9 yX9_of wsX9_of) := goodIn_app (goodIn_of _ (by decide +kernel)) ggX9_isUp_X9_of
set_option maxRecDepth 20000 in
theorem ggX9_clock_X9_of : GoodIn wsX9_clock wsX9_of := goodIn_r _ [6, 1, 7, 8, 5, 9, 10, 11, 12, 13, 14, 15, 16, 17, 18, 19, 20, 21, 22, 23, 24, 25, 26, 27] (by decide +kernel) (by decide +kernel)
set_option maxRecDepth 20000 in
theorem gX9_clock_X9_of : GoodIn wsX9_clock (wsV RX9 181 RX9 yX9_of wsX9_of) := goodIn_app (goodIn_of _ (by decide +kernel)) ggX9_clock_X9_of
set_option maxRecDepth 20000 in
theorem ggX9_estimate_X9_clock : GoodIn wsX9_estimate wsX9_clock := goodIn_r _ [5, 6, 7, 8, 9, 4, 10, 11, 12, 13, 14, 15, 16, 17, 18, 19, 20, 21, 22, 23, 24, 25, 26, 27, 28, 29, 30, 31] (by decide +kernel) (by decide +kernel)
set_option maxRecDepth 20000 in
theorem gX9_estimate_X9_clock : GoodIn wsX9_estimate (wsV RX9 184 RX9 yX9_clock wsX9_clock) := goodIn_app (goodIn_of _ (by decide +kernel)) ggX9_estimate_X9_clock
set_option maxRecDepth 20000 in
theorem ggX9_estimate_X9_of : GoodIn wsX9_estimate wsX9_of := goodIn_r _ [10, 6, 11, 12, 4, 13, 14, 15, 16, 17, 18, 19, 20, 21, 22, 23, 24, 25, 26, 27, 28, 29, 30, 31] (by decide +kernel) (by decide +kernel)
set_option maxRecDepth 20000 in
theorem gX9_estimate_X9_of : GoodIn wsX9_estimate (wsV RX9 181 RX9 yX9_of wsX9_of) := goodIn_app (goodIn_of _ (by decide +kernel)) ggX9_estimate_X9_of
set_option maxRecDepth 20000 in
theorem ggX9_longestDelay_X9_max : GoodIn wsX9_longestDelay wsX9_max := goodIn_r _ [5] (by decide +kernel) (by decide +kernel)
set_option maxRecDepth 20000 in
theorem gX9_longestDelay_X9_max : GoodIn wsX9_longestDelay (va_wsS RX9 186 yX9_max wsX9_max) := goodIn_app (goodIn_of _ (by decide +kernel)) ggX9_longestDelay_X9_max
set_option maxRecDepth 20000 in
theorem ggX9_playersUp_X9_of : GoodIn wsX9_playersUp wsX9_of := goodIn_r _ [6, 1, 7, 8, 5, 9, 10, 11, 12, 13, 14, 15, 16, 17, 18, 19, 20, 21, 22, 23, 24, 25, 26, 27] (by decide +kernel) (by decide +kernel)
set_option maxRecDepth 20000 in
theorem gX9_playersUp_X9_of : GoodIn wsX9_playersUp (wsV RX9 181 RX9 yX9_of wsX9_of) := goodIn_app (goodIn_of _ (by decide +kernel)) ggX9_playersUp_X9_of
set_option maxRecDepth 20000 in
theorem ggX9_margin_X9_longestDelay : GoodIn wsX9_margin wsX9_longestDelay := goodIn_r _ [15, 1, 16, 17, 5, 18, 41, 42, 43, 44, 45, 46, 47, 48, 49, 50, 51, 52, 53, 54, 55, 56, 57, 58] (by decide +kernel) (by decide +kernel)
set_option maxRecDepth 20000 in
theorem gX9_margin_X9_longestDelay : GoodIn wsX9_margin (wsV RX9 197 RX9 yX9_longestDelay wsX9_longestDelay) := goodIn_app (goodIn_of _ (by decide +kernel)) ggX9_margin_X9_longestDelay
set_option maxRecDepth 20000 in
theorem ggX9_margin_X9_min : GoodIn wsX9_margin wsX9_min := goodIn_r _ [40] (by decide +kernel) (by decide +kernel)
set_option maxRecDepth 20000 in
theorem gX9_margin_X9_min : GoodIn wsX9_margin (va_wsS RX9 98 yX9_min wsX9_min) := goodIn_app (goodIn_of _ (by decide +kernel)) ggX9_margin_X9_min
set_option maxRecDepth 20000 in
theorem ggX9_margin_X9_max : GoodIn wsX9_margin wsX9_max := goodIn_r _ [18] (by decide +kernel) (by decide +kernel)
set_option maxRecDepth 20000 in
theorem gX9_margin_X9_max : GoodIn wsX9_margin (va_wsS RX9 186 yX9_max wsX9_max) := goodIn_app (goodIn_of _ (by decide +kernel)) ggX9_margin_X9_max
set_option maxRecDepth 20000 in
theorem ggX9_plan_X9_of : GoodIn wsX9_plan wsX9_of := goodIn_r _ [5, 6, 7, 8, 4, 9, 14, 15, 16, 17, 18, 19, 20, 21, 22, 23, 24, 25, 26, 27, 28, 29, 30, 31] (by decide +kernel) (by decide +kernel)
set_option maxRecDepth 20000 in
theorem gX9_plan_X9_of : GoodIn wsX9_plan (wsV RX9 181 RX9 yX9_of wsX9_of) := goodIn_app (goodIn_of _ (by decide +kernel)) ggX9_plan_X9_of
set_option maxRecDepth 20000 in
theorem ggX9_plan_X9_set : GoodIn wsX9_plan wsX9_set := goodIn_r _ [13, 6, 7, 8, 4, 9, 14, 15, 16, 17, 18, 19, 20, 21, 22, 23, 24, 25, 26, 27, 28, 29, 30, 31] (by decide +kernel) (by decide +kernel)
set_option maxRecDepth 20000 in
theorem gX9_plan_X9_set : GoodIn wsX9_plan (wsV RX9 217 RX9 yX9_set wsX9_set) := goodIn_app (goodIn_of _ (by decide +kernel)) ggX9_plan_X9_set
set_option maxRecDepth 20000 in
theorem ggX9_dropPlan_X9_set : GoodIn wsX9_dropPlan wsX9_set := goodIn_r _ [5, 6, 7, 8, 4, 9, 10, 11, 12, 13, 14, 15, 16, 17, 18, 19, 20, 21, 22, 23, 24, 25, 26, 27] (by decide +kernel) (by decide +kernel)
set_option maxRecDepth 20000 in
theorem gX9_dropPlan_X9_set : GoodIn wsX9_dropPlan (wsV RX9 217 RX9 yX9_set wsX9_set) := goodIn_app (goodIn_of _ (by decide +kernel)) ggX9_dropPlan_X9_set
set_option maxRecDepth 20000 in
theorem ggX9_vote_X9_plan : GoodIn wsX9_vote wsX9_plan := goodIn_r _ [6, 7, 8, 9, 5, 10, 1, 11, 12, 13, 14, 15, 16, 17, 29, 30, 31, 32, 33, 34, 35, 36, 37, 38, 39, 40, 41, 42, 43, 44, 45, 46] (by decide +kernel) (by decide +kernel)
set_option maxRecDepth 20000 in
theorem gX9_vote_X9_plan : GoodIn wsX9_vote (wsV RX9 221 RX9 yX9_plan wsX9_plan) := goodIn_app (goodIn_of _ (by decide +kernel)) ggX9_vote_X9_plan
set_option maxRecDepth 20000 in
theorem ggX9_vote_X9_sendToOthers : GoodIn wsX9_vote wsX9_sendToOthers := goodIn_r _ [21, 1, 22, 23, 24, 5, 25, 26, 27, 28, 29, 30, 31, 32, 33, 34, 35, 36, 37, 38, 39, 40, 41, 42, 43, 44, 45, 46] (by decide +kernel) (by decide +kernel)
set_option maxRecDepth 20000 in
theorem gX9_vote_X9_sendToOthers : GoodIn wsX9_vote (wsV RX9 225 RX9 yX9_sendToOthers wsX9_sendToOthers) := goodIn_app (goodIn_of _ (by decide +kernel)) ggX9_vote_X9_sendToOthers
set_option maxRecDepth 20000 in
theorem ggX9_change_X9_estimate : GoodIn wsX9_change wsX9_estimate := goodIn_r _ [6, 7, 8, 9, 5, 10, 1, 11, 12, 13, 14, 15, 16, 17, 26, 27, 28, 29, 30, 31, 32, 33, 34, 35, 36, 37, 38, 39, 40, 41, 42, 43] (by decide +kernel) (by decide +kernel)
set_option maxRecDepth 20000 in
theorem gX9_change_X9_estimate : GoodIn wsX9_change (wsV RX9 244 RX9 yX9_estimate wsX9_estimate) := goodIn_app (goodIn_of _ (by decide +kernel)) ggX9_change_X9_estimate
set_option maxRecDepth 20000 in
theorem ggX9_change_X9_of : GoodIn wsX9_change wsX9_of := goodIn_r _ [14, 1, 15, 16, 5, 17, 26, 27, 28, 29, 30, 31, 32, 33, 34, 35, 36, 37, 38, 39, 40, 41, 42, 43] (by decide +kernel) (by decide +kernel)
set_option maxRecDepth 20000 in
theorem gX9_change_X9_of : GoodIn wsX9_change (wsV RX9 181 RX9 yX9_of wsX9_of) := goodIn_app (goodIn_of _ (by decide +kernel)) ggX9_change_X9_of
set_option maxRecDepth 20000 in
theorem ggX9_change_X9_set : GoodIn wsX9_change wsX9_set := goodIn_r _ [21, 1, 15, 16, 5, 17, 26, 27, 28, 29, 30, 31, 32, 33, 34, 35, 36, 37, 38, 39, 40, 41, 42, 43] (by decide +kernel) (by decide +kernel)
set_option maxRecDepth 20000 in
theorem gX9_change_X9_set : GoodIn wsX9_change (wsV RX9 217 RX9 yX9_set wsX9_set) := goodIn_app (goodIn_of _ (by decide +kernel)) ggX9_change_X9_set
set_option maxRecDepth 20000 in
theorem ggX9_change_X9_dropPlan : GoodIn wsX9_change wsX9_dropPlan := goodIn_r _ [25, 18, 19, 20, 5, 21, 1, 15, 16, 17, 26, 27, 28, 29, 30, 31, 32, 33, 34, 35, 36, 37, 38, 39, 40, 41, 42, 43] (by decide +kernel) (by decide +kernel)
set_option maxRecDepth 20000 in
theorem gX9_change_X9_dropPlan : GoodIn wsX9_change (wsV RX9 237 RX9 yX9_dropPlan wsX9_dropPlan) := goodIn_app (goodIn_of _ (by decide +kernel)) ggX9_change_X9_dropPlan
set_option maxRecDepth 20000 in
theorem ggX9_tick_X9_handleAll : GoodIn wsX9_tick wsX9_handleAll := goodIn_r _ [6, 1, 7, 8, 9, 5, 10, 11, 12, 13, 14, 15, 16, 17, 18, 19, 20, 21, 22, 23, 24, 25, 26, 27, 28, 29, 30, 31, 32, 33, 34, 35, 36, 37, 38, 39, 40, 41, 42, 43, 44, 45, 46, 47, 48, 49, 50, 51, 52, 53, 54, 55, 56, 69, 70, 71, 72, 73, 74, 75, 76, 77, 78, 79, 80, 81, 82, 83, 84, 85, 86] (by decide +kernel) (by decide +kernel)
