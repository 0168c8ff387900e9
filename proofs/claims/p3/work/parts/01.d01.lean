set_option maxRecDepth 20000 in
theorem gX5_readFactor_X5_takeNumber : GoodIn wsX5_readFactor (wsV RX5 55 RX5 yX5_takeNumber wsX5_takeNumber) := goodIn_app (goodIn_of _ (by decide +kernel)) ggX5_readFactor_X5_takeNumber
set_option maxRecDepth 20000 in
theorem ggX5_readFactor_X5_putCode : GoodIn wsX5_readFactor wsX5_putCode := goodIn_r _ [28, 29, 30, 107, 108, 109, 110, 111, 112, 113, 114, 115, 116, 117, 118, 119, 120] (by decide +kernel) (by decide +kernel)
set_option maxRecDepth 20000 in
theorem gX5_readFactor_X5_putCode : GoodIn wsX5_readFactor (wsV RX5 159 RX5 yX5_putCode wsX5_putCode) := goodIn_app (goodIn_of _ (by decide +kernel)) ggX5_readFactor_X5_putCode
set_option maxRecDepth 20000 in
theorem ggX5_readFactor_X5_isMark : GoodIn wsX5_readFactor wsX5_isMark := goodIn_r _ [34, 1, 9, 107, 108, 109, 110, 111, 112, 113, 114, 115, 116, 117, 118, 119, 120] (by decide +kernel) (by decide +kernel)
set_option maxRecDepth 20000 in
theorem gX5_readFactor_X5_isMark : GoodIn wsX5_readFactor (wsV RX5 156 RX5 yX5_isMark wsX5_isMark) := goodIn_app (goodIn_of _ (by decide +kernel)) ggX5_readFactor_X5_isMark
set_option maxRecDepth 20000 in
theorem ggX5_readFactor_X5_fail : GoodIn wsX5_readFactor wsX5_fail := goodIn_r _ [14, 15, 16, 107, 108, 109, 110, 111, 112, 113, 114, 115, 116, 117, 118, 119, 120] (by decide +kernel) (by decide +kernel)
set_option maxRecDepth 20000 in
theorem gX5_readFactor_X5_fail : GoodIn wsX5_readFactor (wsV RX5 127 RX5 yX5_fail wsX5_fail) := goodIn_app (goodIn_of _ (by decide +kernel)) ggX5_readFactor_X5_fail
set_option maxRecDepth 20000 in
theorem ggX5_readFactor_X5_step : GoodIn wsX5_readFactor wsX5_step := goodIn_r _ [20, 21, 22, 23, 3, 9, 1, 24, 107, 108, 109, 110, 111, 112, 113, 114, 115, 116, 117, 118, 119, 120] (by decide +kernel) (by decide +kernel)
set_option maxRecDepth 20000 in
theorem gX5_readFactor_X5_step : GoodIn wsX5_readFactor (wsV RX5 44 RX5 yX5_step wsX5_step) := goodIn_app (goodIn_of _ (by decide +kernel)) ggX5_readFactor_X5_step
set_option maxRecDepth 20000 in
theorem ggX5_readFactor_X5_readSum : GoodIn wsX5_readFactor wsX5_readSum := goodIn_r _ [99, 100, 101, 102, 7, 31, 32, 33, 34, 1, 9, 17, 18, 19, 20, 21, 22, 23, 3, 24, 25, 26, 27, 28, 29, 30, 0, 2, 4, 5, 6, 8, 10, 11, 12, 13, 14, 15, 16, 35, 36, 37, 38, 39, 40, 41, 42, 43, 44, 45, 46, 47, 48, 49, 50, 51, 52, 53, 54, 55, 56, 57, 58, 59, 60, 61, 62, 63, 64, 65, 66, 67, 68, 69, 70, 71, 72, 73, 74, 75, 76, 77, 78, 79, 80, 81, 82, 83, 84, 85, 86, 87, 88, 89, 90, 91, 92, 93, 94, 95, 96, 97, 98, 103, 104, 105, 106, 107, 108, 109, 110, 111, 112, 113, 114, 115, 116, 117, 118, 119, 120] (by decide +kernel) (by decide +kernel)
set_option maxRecDepth 20000 in
theorem gX5_readFactor_X5_readSum : GoodIn wsX5_readFactor (wsV RX5 115 RX5 yX5_readSum wsX5_readSum) := goodIn_app (goodIn_of _ (by decide +kernel)) ggX5_readFactor_X5_readSum
set_option maxRecDepth 20000 in
theorem ggX5_readFactor_X5_takeMark : GoodIn wsX5_readFactor wsX5_takeMark := goodIn_r _ [41, 3, 31, 32, 33, 7, 34, 1, 9, 11, 12, 13, 14, 15, 16, 17, 18, 19, 20, 21, 22, 23, 24, 107, 108, 109, 110, 111, 112, 113, 114, 115, 116, 117, 118, 119, 120] (by decide +kernel) (by decide +kernel)
set_option maxRecDepth 20000 in
theorem gX5_readFactor_X5_takeMark : GoodIn wsX5_readFactor (wsV RX5 69 RX5 yX5_takeMark wsX5_takeMark) := goodIn_app (goodIn_of _ (by decide +kernel)) ggX5_readFactor_X5_takeMark
set_option maxRecDepth 20000 in
theorem ggX5_readFactor_X5_codeOfWord : GoodIn wsX5_readFactor wsX5_codeOfWord := goodIn_r _ [45, 46, 47, 48, 7, 49, 1, 21, 3, 23, 50, 51, 52, 53, 54, 55, 56, 57, 58, 59, 60, 61, 62, 63, 64, 65, 66, 67, 68, 69, 70, 71, 72, 73, 74, 75, 76, 77, 78, 79, 80, 81, 82, 83, 84, 85, 86, 87, 88, 89, 90, 91, 92, 93, 94, 95, 96, 97, 98, 107, 108, 109, 110, 111, 112, 113, 114, 115, 116, 117, 118, 119, 120] (by decide +kernel) (by decide +kernel)
set_option maxRecDepth 20000 in
theorem gX5_readFactor_X5_codeOfWord : GoodIn wsX5_readFactor (wsV RX5 165 RX5 yX5_codeOfWord wsX5_codeOfWord) := goodIn_app (goodIn_of _ (by decide +kernel)) ggX5_readFactor_X5_codeOfWord
set_option maxRecDepth 20000 in
theorem ggX5_codeOfWord_X5_isWord : GoodIn wsX5_codeOfWord wsX5_isWord := goodIn_r _ [5, 6, 7, 8, 9, 10, 11, 12, 13, 14, 15, 16, 17, 18, 19, 20, 21, 22, 23, 24, 25, 26, 27, 28, 29, 30, 31, 32, 33, 34, 35, 36, 37, 38, 39, 40, 41, 42, 43, 44, 45, 46, 47, 48, 49, 50, 51, 52, 53, 54, 55, 56, 57, 58, 59, 60, 61, 62, 63, 64, 65, 66, 67, 68, 69, 70, 71, 72] (by decide +kernel) (by decide +kernel)
set_option maxRecDepth 20000 in
theorem gX5_codeOfWord_X5_isWord : GoodIn wsX5_codeOfWord (wsV RX5 85 RX5 yX5_isWord wsX5_isWord) := goodIn_app (goodIn_of _ (by decide +kernel)) ggX5_codeOfWord_X5_isWord
set_option maxRecDepth 20000 in
theorem ggX5_takeWord_X5_isWord : GoodIn wsX5_takeWord wsX5_isWord := goodIn_r _ [6, 7, 8, 1, 9, 10, 11, 12, 13, 14, 15, 16, 17, 18, 19, 20, 21, 22, 23, 24, 25, 26, 27, 28, 29, 30, 31, 32, 33, 34, 35, 36, 37, 38, 39, 40, 41, 42, 43, 44, 45, 46, 47, 48, 49, 50, 51, 52, 53, 54, 55, 56, 57, 58, 72, 73, 74, 75, 76, 77, 78, 79, 80, 81, 82, 83, 84, 85] (by decide +kernel) (by decide +kernel)
set_option maxRecDepth 20000 in
theorem gX5_takeWord_X5_isWord : GoodIn wsX5_takeWord (wsV RX5 85 RX5 yX5_isWord wsX5_isWord) := goodIn_app (goodIn_of _ (by decide +kernel)) ggX5_takeWord_X5_isWord
set_option maxRecDepth 20000 in
theorem ggX5_takeWord_X5_fail : GoodIn wsX5_takeWord wsX5_fail := goodIn_r _ [62, 63, 64, 72, 73, 74, 75, 76, 77, 78, 79, 80, 81, 82, 83, 84, 85] (by decide +kernel) (by decide +kernel)
set_option maxRecDepth 20000 in
theorem gX5_takeWord_X5_fail : GoodIn wsX5_takeWord (wsV RX5 127 RX5 yX5_fail wsX5_fail) := goodIn_app (goodIn_of _ (by decide +kernel)) ggX5_takeWord_X5_fail
set_option maxRecDepth 20000 in
theorem ggX5_takeWord_X5_step : GoodIn wsX5_takeWord wsX5_step := goodIn_r _ [68, 8, 69, 9, 1, 70, 7, 71, 72, 73, 74, 75, 76, 77, 78, 79, 80, 81, 82, 83, 84, 85] (by decide +kernel) (by decide +kernel)
set_option maxRecDepth 20000 in
theorem gX5_takeWord_X5_step : GoodIn wsX5_takeWord (wsV RX5 44 RX5 yX5_step wsX5_step) := goodIn_app (goodIn_of _ (by decide +kernel)) ggX5_takeWord_X5_step
set_option maxRecDepth 20000 in
theorem ggX5_takeMark_X5_isMark : GoodIn wsX5_takeMark wsX5_isMark := goodIn_r _ [6, 7, 8, 23, 24, 25, 26, 27, 28, 29, 30, 31, 32, 33, 34, 35, 36] (by decide +kernel) (by decide +kernel)
set_option maxRecDepth 20000 in
theorem gX5_takeMark_X5_isMark : GoodIn wsX5_takeMark (wsV RX5 156 RX5 yX5_isMark wsX5_isMark) := goodIn_app (goodIn_of _ (by decide +kernel)) ggX5_takeMark_X5_isMark
set_option maxRecDepth 20000 in
theorem ggX5_takeMark_X5_fail : GoodIn wsX5_takeMark wsX5_fail := goodIn_r _ [12, 13, 14, 23, 24, 25, 26, 27, 28, 29, 30, 31, 32, 33, 34, 35, 36] (by decide +kernel) (by decide +kernel)
set_option maxRecDepth 20000 in
theorem gX5_takeMark_X5_fail : GoodIn wsX5_takeMark (wsV RX5 127 RX5 yX5_fail wsX5_fail) := goodIn_app (goodIn_of _ (by decide +kernel)) ggX5_takeMark_X5_fail
set_option maxRecDepth 20000 in
theorem ggX5_takeMark_X5_step : GoodIn wsX5_takeMark wsX5_step := goodIn_r _ [18, 19, 20, 21, 1, 8, 7, 22, 23, 24, 25, 26, 27, 28, 29, 30, 31, 32, 33, 34, 35, 36] (by decide +kernel) (by decide +kernel)
set_option maxRecDepth 20000 in
theorem gX5_takeMark_X5_step : GoodIn wsX5_takeMark (wsV RX5 44 RX5 yX5_step wsX5_step) := goodIn_app (goodIn_of _ (by decide +kernel)) ggX5_takeMark_X5_step
set_option maxRecDepth 20000 in
theorem ggX5_takeNumber_X5_fail : GoodIn wsX5_takeNumber wsX5_fail := goodIn_r _ [10, 11, 12, 21, 22, 23, 24, 25, 26, 27, 28, 29, 30, 31, 32, 33, 34] (by decide +kernel) (by decide +kernel)
set_option maxRecDepth 20000 in
theorem gX5_takeNumber_X5_fail : GoodIn wsX5_takeNumber (wsV RX5 127 RX5 yX5_fail wsX5_fail) := goodIn_app (goodIn_of _ (by decide +kernel)) ggX5_takeNumber_X5_fail
set_option maxRecDepth 20000 in
theorem ggX5_takeNumber_X5_step : GoodIn wsX5_takeNumber wsX5_step := goodIn_r _ [16, 17, 18, 19, 2, 3, 1, 20, 21, 22, 23, 24, 25, 26, 27, 28, 29, 30, 31, 32, 33, 34] (by decide +kernel) (by decide +kernel)
set_option maxRecDepth 20000 in
theorem gX5_takeNumber_X5_step : GoodIn wsX5_takeNumber (wsV RX5 44 RX5 yX5_step wsX5_step) := goodIn_app (goodIn_of _ (by decide +kernel)) ggX5_takeNumber_X5_step
set_option maxRecDepth 20000 in
theorem ggX5_takeSigned_X5_isMark : GoodIn wsX5_takeSigned wsX5_isMark := goodIn_r _ [9, 2, 3, 24, 25, 26, 27, 28, 29, 30, 31, 32, 33, 34, 35, 36, 37] (by decide +kernel) (by decide +kernel)
set_option maxRecDepth 20000 in
theorem gX5_takeSigned_X5_isMark : GoodIn wsX5_takeSigned (wsV RX5 156 RX5 yX5_isMark wsX5_isMark) := goodIn_app (goodIn_of _ (by decide +kernel)) ggX5_takeSigned_X5_isMark
set_option maxRecDepth 20000 in
theorem ggX5_takeSigned_X5_step : GoodIn wsX5_takeSigned wsX5_step := goodIn_r _ [13, 14, 15, 16, 1, 3, 2, 17, 24, 25, 26, 27, 28, 29, 30, 31, 32, 33, 34, 35, 36, 37] (by decide +kernel) (by decide +kernel)
set_option maxRecDepth 20000 in
theorem gX5_takeSigned_X5_step : GoodIn wsX5_takeSigned (wsV RX5 44 RX5 yX5_step wsX5_step) := goodIn_app (goodIn_of _ (by decide +kernel)) ggX5_takeSigned_X5_step
set_option maxRecDepth 20000 in
theorem ggX5_takeSigned_X5_fail : GoodIn wsX5_takeSigned wsX5_fail := goodIn_r _ [21, 22, 23, 24, 25, 26, 27, 28, 29, 30, 31, 32, 33, 34, 35, 36, 37] (by decide +kernel) (by decide +kernel)
set_option maxRecDepth 20000 in
theorem gX5_takeSigned_X5_fail : GoodIn wsX5_takeSigned (wsV RX5 127 RX5 yX5_fail wsX5_fail) := goodIn_app (goodIn_of _ (by decide +kernel)) ggX5_takeSigned_X5_fail
set_option maxRecDepth 20000 in
theorem ggX5_isWord_J0_length_8abf5 : GoodIn wsX5_isWord wsJ0_length_8abf5 := goodIn_r _ [9, 10, 11, 12, 13, 8, 14, 15, 16] (by decide +kernel) (by decide +kernel)
set_option maxRecDepth 20000 in
theorem gX5_isWord_J0_length_8abf5 : GoodIn wsX5_isWord (wsV RX5 178 RJ0 yJ0_length_8abf5 wsJ0_length_8abf5) := goodIn_app (goodIn_of _ (by decide +kernel)) ggX5_isWord_J0_length_8abf5
set_option maxRecDepth 20000 in
theorem ggX5_isWord_J0_charAt_5068e : GoodIn wsX5_isWord wsJ0_charAt_5068e := goodIn_r _ [20, 10, 21, 22, 23, 8, 24, 15, 16, 25, 26, 27, 28, 29, 30, 31, 32, 33, 34, 35, 36, 37, 38, 39, 40, 41, 42, 43, 44, 45, 46, 47, 48, 49, 50, 51, 52, 53] (by decide +kernel) (by decide +kernel)
set_option maxRecDepth 20000 in
theorem gX5_isWord_J0_charAt_5068e : GoodIn wsX5_isWord (wsV RX5 182 RJ0 yJ0_charAt_5068e wsJ0_charAt_5068e) := goodIn_app (goodIn_of _ (by decide +kernel)) ggX5_isWord_J0_charAt_5068e
set_option maxRecDepth 20000 in
theorem ggX6_setDelay_X6_place : GoodIn wsX6_setDelay wsX6_place := goodIn_r _ [5] (by decide +kernel) (by decide +kernel)
set_option maxRecDepth 20000 in
theorem gX6_setDelay_X6_place : GoodIn wsX6_setDelay (va_wsS RX6 33 yX6_place wsX6_place) := goodIn_app (goodIn_of _ (by decide +kernel)) ggX6_setDelay_X6_place
set_option maxRecDepth 20000 in
theorem ggX6_delayOf_X6_place : GoodIn wsX6_delayOf wsX6_place := goodIn_r _ [5] (by decide +kernel) (by decide +kernel)
set_option maxRecDepth 20000 in
theorem gX6_delayOf_X6_place : GoodIn wsX6_delayOf (va_wsS RX6 33 yX6_place wsX6_place) := goodIn_app (goodIn_of _ (by decide +kernel)) ggX6_delayOf_X6_place
set_option maxRecDepth 20000 in
theorem ggX7_init_X2_init : GoodIn wsX7_init wsX2_init := goodIn_r _ [25, 26, 2, 3, 27, 28, 29, 30, 119, 120, 121] (by decide +kernel) (by decide +kernel)
set_option maxRecDepth 20000 in
theorem gX7_init_X2_init_n19 : GoodIn wsX7_init (wsX2_init) := ggX7_init_X2_init
set_option maxRecDepth 20000 in
theorem ggX7_init_X4_init : GoodIn wsX7_init wsX4_init := goodIn_r _ [32, 33, 2, 3] (by decide +kernel) (by decide +kernel)
set_option maxRecDepth 20000 in
theorem gX7_init_X4_init_n26 : GoodIn wsX7_init (wsX4_init) := ggX7_init_X4_init
set_option maxRecDepth 20000 in
theorem ggX7_init_X1_init : GoodIn wsX7_init wsX1_init := goodIn_r _ [35, 36, 2, 3] (by decide +kernel) (by decide +kernel)
set_option maxRecDepth 20000 in
theorem gX7_init_X1_init_n33 : GoodIn wsX7_init (wsX1_init) := ggX7_init_X1_init
set_option maxRecDepth 20000 in
theorem ggX7_init_X3_init : GoodIn wsX7_init wsX3_init := goodIn_r _ [38, 39, 2, 3] (by decide +kernel) (by decide +kernel)
set_option maxRecDepth 20000 in
theorem gX7_init_X3_init_n41 : GoodIn wsX7_init (wsX3_init) := ggX7_init_X3_init
set_option maxRecDepth 20000 in
theorem ggX7_init_X6_init : GoodIn wsX7_init wsX6_init := goodIn_r _ [42, 43, 2, 3, 44, 45, 28, 46, 47, 48, 49, 147, 148, 149, 150, 151, 152, 153, 154] (by decide +kernel) (by decide +kernel)
set_option maxRecDepth 20000 in
theorem gX7_init_X6_init : GoodIn wsX7_init (wsX6_init) := ggX7_init_X6_init
set_option maxRecDepth 20000 in
theorem ggX7_init_X6_fillIn : GoodIn wsX7_init wsX6_fillIn := goodIn_r _ [53, 54, 49, 55, 147, 148, 149, 150, 151, 152, 153, 154] (by decide +kernel) (by decide +kernel)
set_option maxRecDepth 20000 in
theorem gX7_init_X6_fillIn : GoodIn wsX7_init (wsV RX7 45 RX6 yX6_fillIn wsX6_fillIn) := goodIn_app (goodIn_of _ (by decide +kernel)) ggX7_init_X6_fillIn
set_option maxRecDepth 20000 in
theorem ggX7_init_X7_begin : GoodIn wsX7_init wsX7_begin := goodIn_r _ [60, 61, 5, 9, 13, 62, 63, 64, 65, 66, 67, 68, 69, 70, 71, 72, 73, 74, 20, 75, 76, 77, 78, 79, 80, 81, 82, 83, 84, 85, 86, 87, 88, 89, 90, 8, 91, 30, 92, 93, 94, 95, 96, 97, 98, 99, 12, 100, 101, 102, 103, 104, 105, 106, 107, 108, 109, 110, 111, 112, 113, 114, 115, 116, 117, 118, 137, 138, 139, 140, 141, 142, 143, 144, 145, 146, 119, 120, 121, 122, 123, 124, 125, 126, 127, 128, 129] (by decide +kernel) (by decide +kernel)
set_option maxRecDepth 20000 in
theorem gX7_init_X7_begin : GoodIn wsX7_init (wsV RX7 48 RX7 yX7_begin wsX7_begin) := goodIn_app (goodIn_of _ (by decide +kernel)) ggX7_init_X7_begin
set_option maxRecDepth 20000 in
theorem ggX7_begin_X3_begin : GoodIn wsX7_begin wsX3_begin := goodIn_r _ [19, 20, 21, 22, 23, 24, 25, 26, 27, 28, 18, 29, 30, 31, 66, 67, 68, 69, 70, 71, 72, 73, 74, 75] (by decide +kernel) (by decide +kernel)
set_option maxRecDepth 20000 in
theorem gX7_begin_X3_begin : GoodIn wsX7_begin (wsV RX7 56 RX3 yX3_begin wsX3_begin) := goodIn_app (goodIn_of _ (by decide +kernel)) ggX7_begin_X3_begin
set_option maxRecDepth 20000 in
theorem ggX7_begin_X2_begin : GoodIn wsX7_begin wsX2_begin := goodIn_r _ [36, 37, 38, 39, 40, 41, 42, 76, 77, 78] (by decide +kernel) (by decide +kernel)
set_option maxRecDepth 20000 in
theorem gX7_begin_X2_begin : GoodIn wsX7_begin (wsV RX7 58 RX2 yX2_begin wsX2_begin) := goodIn_app (goodIn_of _ (by decide +kernel)) ggX7_begin_X2_begin
set_option maxRecDepth 20000 in
theorem ggX7_begin_X4_begin : GoodIn wsX7_begin wsX4_begin := goodIn_r _ [47, 48, 49, 79, 80, 81, 82, 83, 84, 85, 86] (by decide +kernel) (by decide +kernel)
set_option maxRecDepth 20000 in
theorem gX7_begin_X4_begin : GoodIn wsX7_begin (wsV RX7 59 RX4 yX4_begin wsX4_begin) := goodIn_app (goodIn_of _ (by decide +kernel)) ggX7_begin_X4_begin
set_option maxRecDepth 20000 in
theorem ggX7_copyFrom_X7_at : GoodIn wsX7_copyFrom wsX7_at := goodIn_r _ [19, 2, 65, 66, 67, 68, 69, 70, 71, 72, 73, 74, 75, 76, 77, 78, 79, 80] (by decide +kernel) (by decide +kernel)
set_option maxRecDepth 20000 in
theorem gX7_copyFrom_X7_at : GoodIn wsX7_copyFrom (wsV RX7 92 RX7 yX7_at wsX7_at) := goodIn_app (goodIn_of _ (by decide +kernel)) ggX7_copyFrom_X7_at
set_option maxRecDepth 20000 in
theorem ggX7_copyFrom_X3_copyFrom : GoodIn wsX7_copyFrom wsX3_copyFrom := goodIn_r _ [24, 25, 26, 27, 28, 29, 30, 31, 32, 33, 34, 81, 82, 83, 84, 85, 86, 87, 88, 89, 90] (by decide +kernel) (by decide +kernel)
set_option maxRecDepth 20000 in
theorem gX7_copyFrom_X3_copyFrom : GoodIn wsX7_copyFrom (wsV RX7 96 RX3 yX3_copyFrom wsX3_copyFrom) := goodIn_app (goodIn_of _ (by decide +kernel)) ggX7_copyFrom_X3_copyFrom
set_option maxRecDepth 20000 in
theorem ggX7_copyFrom_X2_copyFrom : GoodIn wsX7_copyFrom wsX2_copyFrom := goodIn_r _ [39, 40, 41, 42, 43, 44, 45, 46, 47, 48, 49, 50, 51, 91, 92, 93] (by decide +kernel) (by decide +kernel)
set_option maxRecDepth 20000 in
theorem gX7_copyFrom_X2_copyFrom : GoodIn wsX7_copyFrom (wsV RX7 100 RX2 yX2_copyFrom wsX2_copyFrom) := goodIn_app (goodIn_of _ (by decide +kernel)) ggX7_copyFrom_X2_copyFrom
set_option maxRecDepth 20000 in
theorem ggX7_copyFrom_X4_copyFrom : GoodIn wsX7_copyFrom wsX4_copyFrom := goodIn_r _ [56, 57, 58, 59, 60, 61, 62, 63, 64, 94, 95, 96, 97, 98, 99, 100, 101] (by decide +kernel) (by decide +kernel)
set_option maxRecDepth 20000 in
theorem gX7_copyFrom_X4_copyFrom : GoodIn wsX7_copyFrom (wsV RX7 103 RX4 yX4_copyFrom wsX4_copyFrom) := goodIn_app (goodIn_of _ (by decide +kernel)) ggX7_copyFrom_X4_copyFrom
set_option maxRecDepth 20000 in
theorem ggX7_clock_X6_clock : GoodIn wsX7_clock wsX6_clock := goodIn_r _ [7, 8, 9, 26, 27, 28, 29, 30, 31, 32, 33] (by decide +kernel) (by decide +kernel)
set_option maxRecDepth 20000 in
theorem gX7_clock_X6_clock : GoodIn wsX7_clock (wsV RX7 106 RX6 yX6_clock wsX6_clock) := goodIn_app (goodIn_of _ (by decide +kernel)) ggX7_clock_X6_clock
set_option maxRecDepth 20000 in
theorem ggX7_estimate_X7_clock : GoodIn wsX7_estimate wsX7_clock := goodIn_r _ [5, 6, 7, 8, 9, 10, 11, 12, 13, 14, 30, 31, 32, 33, 34, 35, 36, 37, 38, 39, 40, 41, 42, 43, 44, 45, 46, 47, 48, 49, 50, 51, 52, 53] (by decide +kernel) (by decide +kernel)
set_option maxRecDepth 20000 in
theorem gX7_estimate_X7_clock : GoodIn wsX7_estimate (wsV RX7 110 RX7 yX7_clock wsX7_clock) := goodIn_app (goodIn_of _ (by decide +kernel)) ggX7_estimate_X7_clock
set_option maxRecDepth 20000 in
theorem ggX7_estimate_X7_at : GoodIn wsX7_estimate wsX7_at := goodIn_r _ [18, 19, 30, 31, 32, 33, 34, 35, 36, 37, 38, 39, 40, 41, 42, 43, 44, 45] (by decide +kernel) (by decide +kernel)
set_option maxRecDepth 20000 in
theorem gX7_estimate_X7_at : GoodIn wsX7_estimate (wsV RX7 92 RX7 yX7_at wsX7_at) := goodIn_app (goodIn_of _ (by decide +kernel)) ggX7_estimate_X7_at
set_option maxRecDepth 20000 in
theorem ggX7_error_X7_estimate : GoodIn wsX7_error wsX7_estimate := goodIn_r _ [6, 7, 8, 9, 5, 10, 11, 12, 13, 14, 15, 16, 17, 18, 19, 20, 21, 22, 23, 24, 41, 42, 43, 44, 45, 46, 47, 48, 49, 50, 25, 26, 27, 28, 29, 30, 31, 32, 33, 34, 35, 36, 37, 38, 39, 40, 51, 52, 53, 54, 55, 56, 57, 58] (by decide +kernel) (by decide +kernel)
set_option maxRecDepth 20000 in
theorem gX7_error_X7_estimate : GoodIn wsX7_error (wsV RX7 116 RX7 yX7_estimate wsX7_estimate) := goodIn_app (goodIn_of _ (by decide +kernel)) ggX7_error_X7_estimate
set_option maxRecDepth 20000 in
theorem ggX7_error_X7_clock : GoodIn wsX7_error wsX7_clock := goodIn_r _ [10, 11, 12, 13, 14, 15, 16, 17, 18, 19, 25, 26, 27, 28, 29, 30, 31, 32, 33, 34, 35, 36, 37, 38, 39, 40, 51, 52, 53, 54, 55, 56, 57, 58] (by decide +kernel) (by decide +kernel)
set_option maxRecDepth 20000 in
theorem gX7_error_X7_clock : GoodIn wsX7_error (wsV RX7 110 RX7 yX7_clock wsX7_clock) := goodIn_app (goodIn_of _ (by decide +kernel)) ggX7_error_X7_clock
set_option maxRecDepth 20000 in
theorem ggX7_delay_X6_delayOf : GoodIn wsX7_delay wsX6_delayOf := goodIn_r _ [6, 7, 8, 9, 5, 10, 27, 28, 29, 30, 31, 32, 33, 34] (by decide +kernel) (by decide +kernel)
set_option maxRecDepth 20000 in
theorem gX7_delay_X6_delayOf : GoodIn wsX7_delay (wsV RX7 119 RX6 yX6_delayOf wsX6_delayOf) := goodIn_app (goodIn_of _ (by decide +kernel)) ggX7_delay_X6_delayOf
set_option maxRecDepth 20000 in
theorem ggX7_isCut_X6_place : GoodIn wsX7_isCut wsX6_place := goodIn_r _ [5] (by decide +kernel) (by decide +kernel)
set_option maxRecDepth 20000 in
theorem gX7_isCut_X6_place : GoodIn wsX7_isCut (va_wsS RX7 122 yX6_place wsX6_place) := goodIn_app (goodIn_of _ (by decide +kernel)) ggX7_isCut_X6_place
set_option maxRecDepth 20000 in
theorem ggX7_setCut_X6_place : GoodIn wsX7_setCut wsX6_place := goodIn_r _ [6] (by decide +kernel) (by decide +kernel)
set_option maxRecDepth 20000 in
theorem gX7_setCut_X6_place : GoodIn wsX7_setCut (va_wsS RX7 122 yX6_place wsX6_place) := goodIn_app (goodIn_of _ (by decide +kernel)) ggX7_setCut_X6_place
set_option maxRecDepth 20000 in
theorem ggX7_countUp_X7_at : GoodIn wsX7_countUp wsX7_at := goodIn_r _ [6, 7, 8, 9, 10, 11, 12, 13, 14, 15, 16, 17, 18, 19, 20, 21, 22, 23] (by decide +kernel) (by decide +kernel)
set_option maxRecDepth 20000 in
theorem gX7_countUp_X7_at : GoodIn wsX7_countUp (wsV RX7 92 RX7 yX7_at wsX7_at) := goodIn_app (goodIn_of _ (by decide +kernel)) ggX7_countUp_X7_at
set_option maxRecDepth 20000 in
theorem ggX7_countSongs_X7_at : GoodIn wsX7_countSongs wsX7_at := goodIn_r _ [6, 7, 12, 13, 14, 15, 16, 17, 18, 19, 20, 21, 22, 23, 24, 25, 26, 27] (by decide +kernel) (by decide +kernel)
set_option maxRecDepth 20000 in
theorem gX7_countSongs_X7_at : GoodIn wsX7_countSongs (wsV RX7 92 RX7 yX7_at wsX7_at) := goodIn_app (goodIn_of _ (by decide +kernel)) ggX7_countSongs_X7_at
set_option maxRecDepth 20000 in
theorem ggX7_countSongs_X7_isFirstWithItsSong : GoodIn wsX7_countSongs wsX7_isFirstWithItsSong := goodIn_r _ [11, 2, 3, 4, 5, 6, 7, 36, 37, 38, 39, 40, 41, 42, 43, 44, 45, 12, 13, 14, 15, 16, 17, 18, 19, 20, 21, 22, 23, 24, 25, 26, 27] (by decide +kernel) (by decide +kernel)
set_option maxRecDepth 20000 in
theorem gX7_countSongs_X7_isFirstWithItsSong : GoodIn wsX7_countSongs (wsV RX7 133 RX7 yX7_isFirstWithItsSong wsX7_isFirstWithItsSong) := goodIn_app (goodIn_of _ (by decide +kernel)) ggX7_countSongs_X7_isFirstWithItsSong
set_option maxRecDepth 20000 in
theorem ggX7_isFirstWithItsSong_X7_at : GoodIn wsX7_isFirstWithItsSong wsX7_at := goodIn_r _ [5, 6, 17, 18, 19, 20, 21, 22, 23, 24, 25, 26, 27, 28, 29, 30, 31, 32] (by decide +kernel) (by decide +kernel)
set_option maxRecDepth 20000 in
theorem gX7_isFirstWithItsSong_X7_at : GoodIn wsX7_isFirstWithItsSong (wsV RX7 92 RX7 yX7_at wsX7_at) := goodIn_app (goodIn_of _ (by decide +kernel)) ggX7_isFirstWithItsSong_X7_at
set_option maxRecDepth 20000 in
theorem ggX7_greatestOpenDelay_X7_isCut : GoodIn wsX7_greatestOpenDelay wsX7_isCut := goodIn_r _ [10, 11, 12, 13, 14, 15, 26, 27, 28, 29, 30, 31, 32, 33, 34, 35, 36, 37, 38, 39, 40, 41] (by decide +kernel) (by decide +kernel)
set_option maxRecDepth 20000 in
theorem gX7_greatestOpenDelay_X7_isCut : GoodIn wsX7_greatestOpenDelay (wsV RX7 140 RX7 yX7_isCut wsX7_isCut) := goodIn_app (goodIn_of _ (by decide +kernel)) ggX7_greatestOpenDelay_X7_isCut
set_option maxRecDepth 20000 in
theorem ggX7_greatestOpenDelay_X7_delay : GoodIn wsX7_greatestOpenDelay wsX7_delay := goodIn_r _ [19, 1, 20, 21, 22, 14, 23, 24, 25, 13, 15, 26, 27, 28, 29, 30, 31, 32, 33, 34, 35, 36, 37, 38, 39, 40, 41, 42, 43, 44, 45, 46, 47, 48, 49] (by decide +kernel) (by decide +kernel)
set_option maxRecDepth 20000 in
theorem gX7_greatestOpenDelay_X7_delay : GoodIn wsX7_greatestOpenDelay (wsV RX7 144 RX7 yX7_delay wsX7_delay) := goodIn_app (goodIn_of _ (by decide +kernel)) ggX7_greatestOpenDelay_X7_delay
set_option maxRecDepth 20000 in
theorem ggX7_margin_X7_greatestOpenDelay : GoodIn wsX7_margin wsX7_greatestOpenDelay := goodIn_r _ [13, 1, 6, 7, 4, 8, 14, 15, 16, 12, 17, 18, 19, 20, 21, 22, 23, 24, 25, 26, 27, 28, 29, 30, 31, 32, 63, 64, 65, 66, 67, 68, 69, 70, 71, 72, 73, 74, 75, 76, 77, 78, 79, 80, 81, 82, 83, 84, 85, 86] (by decide +kernel) (by decide +kernel)
set_option maxRecDepth 20000 in
theorem gX7_margin_X7_greatestOpenDelay : GoodIn wsX7_margin (wsV RX7 156 RX7 yX7_greatestOpenDelay wsX7_greatestOpenDelay) := goodIn_app (goodIn_of _ (by decide +kernel)) ggX7_margin_X7_greatestOpenDelay
set_option maxRecDepth 20000 in
theorem ggX7_margin_X7_countUp : GoodIn wsX7_margin wsX7_countUp := goodIn_r _ [36, 1, 37, 38, 39, 12, 40, 41, 63, 64, 65, 66, 67, 68, 69, 70, 71, 72, 73, 74, 75, 76, 77, 78, 79, 80, 81, 82, 83, 84, 85, 86, 87, 88, 89, 90, 91, 92, 93, 94, 95, 96] (by decide +kernel) (by decide +kernel)
set_option maxRecDepth 20000 in
theorem gX7_margin_X7_countUp : GoodIn wsX7_margin (wsV RX7 160 RX7 yX7_countUp wsX7_countUp) := goodIn_app (goodIn_of _ (by decide +kernel)) ggX7_margin_X7_countUp
set_option maxRecDepth 20000 in
theorem ggX7_margin_X0_value : GoodIn wsX7_margin wsX0_value := goodIn_r _ [46, 47, 48, 49, 50, 45, 51, 52, 53, 54, 55, 4, 56, 57, 58, 59, 60, 61, 62, 97, 98] (by decide +kernel) (by decide +kernel)
set_option maxRecDepth 20000 in
theorem gX7_margin_X0_value : GoodIn wsX7_margin (wsV RX7 163 RX0 yX0_value wsX0_value) := goodIn_app (goodIn_of _ (by decide +kernel)) ggX7_margin_X0_value
set_option maxRecDepth 20000 in
theorem ggX7_count_X7_countSongs : GoodIn wsX7_count wsX7_countSongs := goodIn_r _ [16, 1, 17, 18, 19, 15, 20, 21, 22, 23, 24, 25, 85, 86, 87, 88, 89, 90, 91, 92, 93, 94, 95, 96, 97, 98, 99, 100, 101, 102, 103, 104, 105, 106, 107, 108, 112, 113, 114, 115, 116, 117, 118, 119, 120, 121] (by decide +kernel) (by decide +kernel)
set_option maxRecDepth 20000 in
theorem gX7_count_X7_countSongs : GoodIn wsX7_count (wsV RX7 175 RX7 yX7_countSongs wsX7_countSongs) := goodIn_app (goodIn_of _ (by decide +kernel)) ggX7_count_X7_countSongs
