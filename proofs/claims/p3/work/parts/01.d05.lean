set_option maxRecDepth 20000 in
theorem ggX8_keepForUndo_X7_copyFrom : GoodIn wsX8_keepForUndo wsX7_copyFrom := goodIn_r _ [9, 10, 11, 12, 13, 14, 15, 16, 17, 18, 19, 20, 21, 22, 23, 24, 25, 26, 8, 27, 28, 29, 30, 31, 32, 33, 34, 35, 36, 37, 38, 39, 40, 41, 42, 43, 44, 45, 46, 47, 48, 49, 50, 51, 52, 53, 54, 55, 56, 57, 58, 59, 60, 61, 62, 63, 64, 65, 66, 67, 68, 69, 70, 71, 72, 80, 81, 82, 83, 84, 85, 86, 87, 88, 89, 90, 91, 92, 93, 94, 95, 96, 97, 98, 99, 100, 101, 102, 103, 104, 105, 106, 107, 108, 109, 110, 111, 112, 113, 114, 115, 116] (by decide +kernel) (by decide +kernel)
set_option maxRecDepth 20000 in
theorem gX8_keepForUndo_X7_copyFrom : GoodIn wsX8_keepForUndo (wsV RX8 131 RX7 yX7_copyFrom wsX7_copyFrom) := goodIn_app (goodIn_of _ (by decide +kernel)) ggX8_keepForUndo_X7_copyFrom
set_option maxRecDepth 20000 in
theorem ggX9_init_X9_layPlayers : GoodIn wsX9_init wsX9_layPlayers := goodIn_r _ [18, 19, 20, 17, 21] (by decide +kernel) (by decide +kernel)
set_option maxRecDepth 20000 in
theorem gX9_init_X9_layPlayers : GoodIn wsX9_init (va_wsS RX9 36 yX9_layPlayers wsX9_layPlayers) := goodIn_app (goodIn_of _ (by decide +kernel)) ggX9_init_X9_layPlayers
set_option maxRecDepth 20000 in
theorem ggX9_layPlayers_X9_playerAt : GoodIn wsX9_layPlayers wsX9_playerAt := goodIn_r _ [4] (by decide +kernel) (by decide +kernel)
set_option maxRecDepth 20000 in
theorem gX9_layPlayers_X9_playerAt : GoodIn wsX9_layPlayers (va_wsS RX9 43 yX9_playerAt wsX9_playerAt) := goodIn_app (goodIn_of _ (by decide +kernel)) ggX9_layPlayers_X9_playerAt
set_option maxRecDepth 20000 in
theorem ggX9_ahead_X9_byteAt : GoodIn wsX9_ahead wsX9_byteAt := goodIn_r _ [6, 7, 8, 9, 10, 11, 12, 13, 14, 15, 16, 17, 18, 19, 20, 21, 22, 23, 24, 25, 26] (by decide +kernel) (by decide +kernel)
set_option maxRecDepth 20000 in
theorem gX9_ahead_X9_byteAt : GoodIn wsX9_ahead (wsV RX9 56 RX9 yX9_byteAt wsX9_byteAt) := goodIn_app (goodIn_of _ (by decide +kernel)) ggX9_ahead_X9_byteAt
set_option maxRecDepth 20000 in
theorem ggX9_isDigit_X9_in : GoodIn wsX9_isDigit wsX9_in := goodIn_r _ [4] (by decide +kernel) (by decide +kernel)
set_option maxRecDepth 20000 in
theorem gX9_isDigit_X9_in : GoodIn wsX9_isDigit (va_wsS RX9 65 yX9_in wsX9_in) := goodIn_app (goodIn_of _ (by decide +kernel)) ggX9_isDigit_X9_in
set_option maxRecDepth 20000 in
theorem ggX9_takeWord_X9_isGood : GoodIn wsX9_takeWord wsX9_isGood := goodIn_r _ [6, 7, 70, 71, 72, 73, 74, 75, 76, 77, 78, 79, 80, 81, 82, 83, 84, 85, 86, 87] (by decide +kernel) (by decide +kernel)
set_option maxRecDepth 20000 in
theorem gX9_takeWord_X9_isGood : GoodIn wsX9_takeWord (wsV RX9 69 RX9 yX9_isGood wsX9_isGood) := goodIn_app (goodIn_of _ (by decide +kernel)) ggX9_takeWord_X9_isGood
set_option maxRecDepth 20000 in
theorem ggX9_takeWord_X9_ahead : GoodIn wsX9_takeWord wsX9_ahead := goodIn_r _ [11, 1, 12, 13, 14, 5, 15, 16, 17, 70, 71, 72, 73, 74, 75, 76, 77, 78, 79, 80, 81, 82, 83, 84, 85, 86, 87] (by decide +kernel) (by decide +kernel)
set_option maxRecDepth 20000 in
theorem gX9_takeWord_X9_ahead : GoodIn wsX9_takeWord (wsV RX9 73 RX9 yX9_ahead wsX9_ahead) := goodIn_app (goodIn_of _ (by decide +kernel)) ggX9_takeWord_X9_ahead
set_option maxRecDepth 20000 in
theorem ggX9_takeWord_J0_length_8abf5 : GoodIn wsX9_takeWord wsJ0_length_8abf5 := goodIn_r _ [22, 23, 24, 25, 26, 21, 27, 28, 29] (by decide +kernel) (by decide +kernel)
set_option maxRecDepth 20000 in
theorem gX9_takeWord_J0_length_8abf5 : GoodIn wsX9_takeWord (wsV RX9 77 RJ0 yJ0_length_8abf5 wsJ0_length_8abf5) := goodIn_app (goodIn_of _ (by decide +kernel)) ggX9_takeWord_J0_length_8abf5
set_option maxRecDepth 20000 in
theorem ggX9_takeWord_X9_byteAt : GoodIn wsX9_takeWord wsX9_byteAt := goodIn_r _ [15, 16, 17, 70, 71, 72, 73, 74, 75, 76, 77, 78, 79, 80, 81, 82, 83, 84, 85, 86, 87] (by decide +kernel) (by decide +kernel)
set_option maxRecDepth 20000 in
theorem gX9_takeWord_X9_byteAt : GoodIn wsX9_takeWord (wsV RX9 56 RX9 yX9_byteAt wsX9_byteAt) := goodIn_app (goodIn_of _ (by decide +kernel)) ggX9_takeWord_X9_byteAt
set_option maxRecDepth 20000 in
theorem ggX9_takeWord_J0_charAt_5068e : GoodIn wsX9_takeWord wsJ0_charAt_5068e := goodIn_r _ [33, 23, 34, 35, 36, 21, 37, 28, 29, 38, 39, 40, 41, 42, 43, 44, 45, 46, 47, 48, 49, 50, 51, 52, 53, 54, 55, 56, 57, 58, 59, 60, 61, 62, 63, 64, 65, 66] (by decide +kernel) (by decide +kernel)
set_option maxRecDepth 20000 in
theorem gX9_takeWord_J0_charAt_5068e : GoodIn wsX9_takeWord (wsV RX9 82 RJ0 yJ0_charAt_5068e wsJ0_charAt_5068e) := goodIn_app (goodIn_of _ (by decide +kernel)) ggX9_takeWord_J0_charAt_5068e
set_option maxRecDepth 20000 in
theorem ggX9_takeWord_X9_in : GoodIn wsX9_takeWord wsX9_in := goodIn_r _ [69] (by decide +kernel) (by decide +kernel)
set_option maxRecDepth 20000 in
theorem gX9_takeWord_X9_in : GoodIn wsX9_takeWord (va_wsS RX9 65 yX9_in wsX9_in) := goodIn_app (goodIn_of _ (by decide +kernel)) ggX9_takeWord_X9_in
set_option maxRecDepth 20000 in
theorem ggX9_expect_X9_isGood : GoodIn wsX9_expect wsX9_isGood := goodIn_r _ [6, 7, 23, 24, 25, 26, 27, 28, 29, 30, 31, 32, 33, 34, 35, 36, 37, 38, 39, 40] (by decide +kernel) (by decide +kernel)
set_option maxRecDepth 20000 in
theorem gX9_expect_X9_isGood : GoodIn wsX9_expect (wsV RX9 69 RX9 yX9_isGood wsX9_isGood) := goodIn_app (goodIn_of _ (by decide +kernel)) ggX9_expect_X9_isGood
set_option maxRecDepth 20000 in
theorem ggX9_expect_X9_ahead : GoodIn wsX9_expect wsX9_ahead := goodIn_r _ [11, 1, 12, 13, 14, 5, 15, 16, 17, 23, 24, 25, 26, 27, 28, 29, 30, 31, 32, 33, 34, 35, 36, 37, 38, 39, 40] (by decide +kernel) (by decide +kernel)
set_option maxRecDepth 20000 in
theorem gX9_expect_X9_ahead : GoodIn wsX9_expect (wsV RX9 73 RX9 yX9_ahead wsX9_ahead) := goodIn_app (goodIn_of _ (by decide +kernel)) ggX9_expect_X9_ahead
set_option maxRecDepth 20000 in
theorem ggX9_expect_X9_report : GoodIn wsX9_expect wsX9_report := goodIn_r _ [21, 7, 22, 23, 24, 25, 26, 27, 28, 29, 30, 31, 32, 33, 34, 35, 36, 37, 38, 39, 40] (by decide +kernel) (by decide +kernel)
set_option maxRecDepth 20000 in
theorem gX9_expect_X9_report : GoodIn wsX9_expect (wsV RX9 86 RX9 yX9_report wsX9_report) := goodIn_app (goodIn_of _ (by decide +kernel)) ggX9_expect_X9_report
set_option maxRecDepth 20000 in
theorem ggX9_number_X9_isGood : GoodIn wsX9_number wsX9_isGood := goodIn_r _ [8, 9, 34, 35, 36, 37, 38, 39, 40, 41, 42, 43, 44, 45, 46, 47, 48, 49, 50, 51] (by decide +kernel) (by decide +kernel)
set_option maxRecDepth 20000 in
theorem gX9_number_X9_isGood : GoodIn wsX9_number (wsV RX9 69 RX9 yX9_isGood wsX9_isGood) := goodIn_app (goodIn_of _ (by decide +kernel)) ggX9_number_X9_isGood
set_option maxRecDepth 20000 in
theorem ggX9_number_X9_ahead : GoodIn wsX9_number wsX9_ahead := goodIn_r _ [13, 1, 14, 15, 16, 7, 17, 18, 19, 34, 35, 36, 37, 38, 39, 40, 41, 42, 43, 44, 45, 46, 47, 48, 49, 50, 51] (by decide +kernel) (by decide +kernel)
set_option maxRecDepth 20000 in
theorem gX9_number_X9_ahead : GoodIn wsX9_number (wsV RX9 73 RX9 yX9_ahead wsX9_ahead) := goodIn_app (goodIn_of _ (by decide +kernel)) ggX9_number_X9_ahead
set_option maxRecDepth 20000 in
theorem ggX9_number_X9_isDigit : GoodIn wsX9_number wsX9_isDigit := goodIn_r _ [22, 23, 24, 7, 25] (by decide +kernel) (by decide +kernel)
set_option maxRecDepth 20000 in
theorem gX9_number_X9_isDigit : GoodIn wsX9_number (va_wsS RX9 90 yX9_isDigit wsX9_isDigit) := goodIn_app (goodIn_of _ (by decide +kernel)) ggX9_number_X9_isDigit
set_option maxRecDepth 20000 in
theorem ggX9_number_X9_report : GoodIn wsX9_number wsX9_report := goodIn_r _ [29, 9, 30, 34, 35, 36, 37, 38, 39, 40, 41, 42, 43, 44, 45, 46, 47, 48, 49, 50, 51] (by decide +kernel) (by decide +kernel)
set_option maxRecDepth 20000 in
theorem gX9_number_X9_report : GoodIn wsX9_number (wsV RX9 86 RX9 yX9_report wsX9_report) := goodIn_app (goodIn_of _ (by decide +kernel)) ggX9_number_X9_report
set_option maxRecDepth 20000 in
theorem ggX9_number_X9_byteAt : GoodIn wsX9_number wsX9_byteAt := goodIn_r _ [17, 18, 19, 34, 35, 36, 37, 38, 39, 40, 41, 42, 43, 44, 45, 46, 47, 48, 49, 50, 51] (by decide +kernel) (by decide +kernel)
set_option maxRecDepth 20000 in
theorem gX9_number_X9_byteAt : GoodIn wsX9_number (wsV RX9 56 RX9 yX9_byteAt wsX9_byteAt) := goodIn_app (goodIn_of _ (by decide +kernel)) ggX9_number_X9_byteAt
set_option maxRecDepth 20000 in
theorem ggX9_number_X9_min : GoodIn wsX9_number wsX9_min := goodIn_r _ [33] (by decide +kernel) (by decide +kernel)
set_option maxRecDepth 20000 in
theorem gX9_number_X9_min : GoodIn wsX9_number (va_wsS RX9 98 yX9_min wsX9_min) := goodIn_app (goodIn_of _ (by decide +kernel)) ggX9_number_X9_min
set_option maxRecDepth 20000 in
theorem ggX9_number_X9_in : GoodIn wsX9_number wsX9_in := goodIn_r _ [25] (by decide +kernel) (by decide +kernel)
set_option maxRecDepth 20000 in
theorem gX9_number_X9_in : GoodIn wsX9_number (va_wsS RX9 65 yX9_in wsX9_in) := goodIn_app (goodIn_of _ (by decide +kernel)) ggX9_number_X9_in
set_option maxRecDepth 20000 in
theorem ggX9_emit_X9_isGood : GoodIn wsX9_emit wsX9_isGood := goodIn_r _ [6, 7, 8, 9, 10, 11, 12, 13, 14, 15, 16, 17, 18, 19, 20, 21, 22, 23, 24, 25] (by decide +kernel) (by decide +kernel)
set_option maxRecDepth 20000 in
theorem gX9_emit_X9_isGood : GoodIn wsX9_emit (wsV RX9 69 RX9 yX9_isGood wsX9_isGood) := goodIn_app (goodIn_of _ (by decide +kernel)) ggX9_emit_X9_isGood
set_option maxRecDepth 20000 in
theorem ggX9_factor_X9_isGood : GoodIn wsX9_factor wsX9_isGood := goodIn_r _ [7, 8, 112, 113, 114, 115, 116, 117, 118, 119, 120, 121, 122, 123, 124, 125, 126, 127, 128, 129] (by decide +kernel) (by decide +kernel)
set_option maxRecDepth 20000 in
theorem gX9_factor_X9_isGood : GoodIn wsX9_factor (wsV RX9 69 RX9 yX9_isGood wsX9_isGood) := goodIn_app (goodIn_of _ (by decide +kernel)) ggX9_factor_X9_isGood
set_option maxRecDepth 20000 in
theorem ggX9_factor_X9_ahead : GoodIn wsX9_factor wsX9_ahead := goodIn_r _ [12, 2, 13, 14, 15, 6, 16, 17, 18, 112, 113, 114, 115, 116, 117, 118, 119, 120, 121, 122, 123, 124, 125, 126, 127, 128, 129] (by decide +kernel) (by decide +kernel)
set_option maxRecDepth 20000 in
theorem gX9_factor_X9_ahead : GoodIn wsX9_factor (wsV RX9 73 RX9 yX9_ahead wsX9_ahead) := goodIn_app (goodIn_of _ (by decide +kernel)) ggX9_factor_X9_ahead
set_option maxRecDepth 20000 in
theorem ggX9_factor_X9_report : GoodIn wsX9_factor wsX9_report := goodIn_r _ [22, 8, 23, 112, 113, 114, 115, 116, 117, 118, 119, 120, 121, 122, 123, 124, 125, 126, 127, 128, 129] (by decide +kernel) (by decide +kernel)
set_option maxRecDepth 20000 in
theorem gX9_factor_X9_report : GoodIn wsX9_factor (wsV RX9 86 RX9 yX9_report wsX9_report) := goodIn_app (goodIn_of _ (by decide +kernel)) ggX9_factor_X9_report
set_option maxRecDepth 20000 in
theorem ggX9_factor_X9_readSum : GoodIn wsX9_factor wsX9_readSum := goodIn_r _ [104, 2, 105, 106, 107, 6, 3, 4, 5, 7, 8, 9, 10, 11, 12, 13, 14, 15, 16, 17, 18, 99, 100, 101, 102, 103, 0, 1, 19, 20, 21, 22, 23, 24, 25, 26, 27, 28, 29, 30, 31, 32, 33, 34, 35, 36, 37, 38, 39, 40, 41, 42, 43, 44, 45, 46, 47, 48, 49, 50, 51, 52, 53, 54, 55, 56, 57, 58, 59, 60, 61, 62, 63, 64, 65, 66, 67, 68, 69, 70, 71, 72, 73, 74, 75, 76, 77, 78, 79, 80, 81, 82, 83, 84, 85, 86, 87, 88, 89, 90, 91, 92, 93, 94, 95, 96, 97, 98, 108, 109, 110, 111, 112, 113, 114, 115, 116, 117, 118, 119, 120, 121, 122, 123, 124, 125, 126, 127, 128, 129] (by decide +kernel) (by decide +kernel)
set_option maxRecDepth 20000 in
theorem gX9_factor_X9_readSum : GoodIn wsX9_factor (wsV RX9 105 RX9 yX9_readSum wsX9_readSum) := goodIn_app (goodIn_of _ (by decide +kernel)) ggX9_factor_X9_readSum
set_option maxRecDepth 20000 in
theorem ggX9_factor_X9_expect : GoodIn wsX9_factor wsX9_expect := goodIn_r _ [30, 2, 3, 4, 5, 6, 7, 8, 9, 10, 11, 12, 13, 14, 15, 16, 17, 18, 19, 20, 21, 22, 23, 112, 113, 114, 115, 116, 117, 118, 119, 120, 121, 122, 123, 124, 125, 126, 127, 128, 129] (by decide +kernel) (by decide +kernel)
set_option maxRecDepth 20000 in
theorem gX9_factor_X9_expect : GoodIn wsX9_factor (wsV RX9 108 RX9 yX9_expect wsX9_expect) := goodIn_app (goodIn_of _ (by decide +kernel)) ggX9_factor_X9_expect
set_option maxRecDepth 20000 in
theorem ggX9_factor_X9_isDigit : GoodIn wsX9_factor wsX9_isDigit := goodIn_r _ [33, 34, 35, 6, 36] (by decide +kernel) (by decide +kernel)
set_option maxRecDepth 20000 in
theorem gX9_factor_X9_isDigit : GoodIn wsX9_factor (va_wsS RX9 90 yX9_isDigit wsX9_isDigit) := goodIn_app (goodIn_of _ (by decide +kernel)) ggX9_factor_X9_isDigit
set_option maxRecDepth 20000 in
theorem ggX9_factor_X9_takeWord : GoodIn wsX9_factor wsX9_takeWord := goodIn_r _ [40, 2, 3, 4, 5, 6, 7, 8, 9, 10, 11, 12, 13, 14, 15, 16, 17, 18, 41, 42, 43, 44, 45, 46, 47, 48, 49, 50, 51, 52, 53, 54, 55, 56, 57, 58, 59, 60, 61, 62, 63, 64, 65, 66, 67, 68, 69, 70, 71, 72, 73, 74, 75, 76, 77, 78, 79, 80, 81, 82, 83, 84, 85, 86, 87, 88, 89, 34, 35, 36, 112, 113, 114, 115, 116, 117, 118, 119, 120, 121, 122, 123, 124, 125, 126, 127, 128, 129] (by decide +kernel) (by decide +kernel)
set_option maxRecDepth 20000 in
theorem gX9_factor_X9_takeWord : GoodIn wsX9_factor (wsV RX9 114 RX9 yX9_takeWord wsX9_takeWord) := goodIn_app (goodIn_of _ (by decide +kernel)) ggX9_factor_X9_takeWord
set_option maxRecDepth 20000 in
theorem ggX9_factor_X9_number : GoodIn wsX9_factor wsX9_number := goodIn_r _ [93, 2, 94, 95, 3, 4, 5, 6, 7, 8, 9, 10, 11, 12, 13, 14, 15, 16, 17, 18, 31, 32, 33, 34, 35, 36, 19, 20, 21, 22, 23, 96, 97, 98, 112, 113, 114, 115, 116, 117, 118, 119, 120, 121, 122, 123, 124, 125, 126, 127, 128, 129] (by decide +kernel) (by decide +kernel)
set_option maxRecDepth 20000 in
theorem gX9_factor_X9_number : GoodIn wsX9_factor (wsV RX9 124 RX9 yX9_number wsX9_number) := goodIn_app (goodIn_of _ (by decide +kernel)) ggX9_factor_X9_number
set_option maxRecDepth 20000 in
theorem ggX9_factor_X9_emit : GoodIn wsX9_factor wsX9_emit := goodIn_r _ [102, 103, 3, 4, 5, 6, 7, 8, 112, 113, 114, 115, 116, 117, 118, 119, 120, 121, 122, 123, 124, 125, 126, 127, 128, 129] (by decide +kernel) (by decide +kernel)
set_option maxRecDepth 20000 in
theorem gX9_factor_X9_emit : GoodIn wsX9_factor (wsV RX9 127 RX9 yX9_emit wsX9_emit) := goodIn_app (goodIn_of _ (by decide +kernel)) ggX9_factor_X9_emit
set_option maxRecDepth 20000 in
theorem ggX9_term_X9_factor : GoodIn wsX9_term wsX9_factor := goodIn_r _ [26, 27, 1, 6, 7, 8, 5, 9, 10, 11, 12, 13, 14, 15, 16, 17, 18, 19, 20, 28, 29, 30, 31, 32, 33, 34, 35, 36, 37, 38, 39, 40, 41, 42, 43, 44, 45, 46, 47, 48, 49, 50, 51, 52, 53, 54, 55, 56, 57, 58, 59, 60, 61, 62, 63, 64, 65, 66, 67, 68, 69, 70, 71, 72, 73, 74, 75, 76, 77, 78, 79, 80, 81, 82, 83, 84, 85, 86, 87, 88, 89, 90, 91, 92, 93, 94, 95, 96, 97, 98, 99, 100, 101, 102, 103, 104, 105, 106, 107, 21, 22, 23, 24, 25, 108, 109, 110, 111, 0, 2, 3, 4, 112, 113, 114, 115, 116, 117, 118, 119, 120, 121, 122, 123, 124, 125, 126, 127, 128, 129] (by decide +kernel) (by decide +kernel)
set_option maxRecDepth 20000 in
theorem gX9_term_X9_factor : GoodIn wsX9_term (wsV RX9 130 RX9 yX9_factor wsX9_factor) := goodIn_app (goodIn_of _ (by decide +kernel)) ggX9_term_X9_factor
set_option maxRecDepth 20000 in
theorem ggX9_term_X9_isGood : GoodIn wsX9_term wsX9_isGood := goodIn_r _ [9, 10, 112, 113, 114, 115, 116, 117, 118, 119, 120, 121, 122, 123, 124, 125, 126, 127, 128, 129] (by decide +kernel) (by decide +kernel)
set_option maxRecDepth 20000 in
theorem gX9_term_X9_isGood : GoodIn wsX9_term (wsV RX9 69 RX9 yX9_isGood wsX9_isGood) := goodIn_app (goodIn_of _ (by decide +kernel)) ggX9_term_X9_isGood
set_option maxRecDepth 20000 in
theorem ggX9_term_X9_ahead : GoodIn wsX9_term wsX9_ahead := goodIn_r _ [14, 1, 15, 16, 17, 5, 18, 19, 20, 112, 113, 114, 115, 116, 117, 118, 119, 120, 121, 122, 123, 124, 125, 126, 127, 128, 129] (by decide +kernel) (by decide +kernel)
set_option maxRecDepth 20000 in
theorem gX9_term_X9_ahead : GoodIn wsX9_term (wsV RX9 73 RX9 yX9_ahead wsX9_ahead) := goodIn_app (goodIn_of _ (by decide +kernel)) ggX9_term_X9_ahead
set_option maxRecDepth 20000 in
theorem ggX9_term_X9_emit : GoodIn wsX9_term wsX9_emit := goodIn_r _ [24, 25, 6, 7, 8, 5, 9, 10, 112, 113, 114, 115, 116, 117, 118, 119, 120, 121, 122, 123, 124, 125, 126, 127, 128, 129] (by decide +kernel) (by decide +kernel)
set_option maxRecDepth 20000 in
theorem gX9_term_X9_emit : GoodIn wsX9_term (wsV RX9 127 RX9 yX9_emit wsX9_emit) := goodIn_app (goodIn_of _ (by decide +kernel)) ggX9_term_X9_emit
set_option maxRecDepth 20000 in
theorem ggX9_readSum_X9_term : GoodIn wsX9_readSum wsX9_term := goodIn_r _ [108, 1, 109, 110, 111, 5, 6, 7, 8, 9, 10, 11, 12, 13, 14, 15, 16, 17, 18, 19, 20, 21, 22, 23, 24, 25, 26, 27, 28, 29, 30, 31, 32, 33, 34, 35, 36, 37, 38, 39, 40, 41, 42, 43, 44, 45, 46, 47, 48, 49, 50, 51, 52, 53, 54, 55, 56, 57, 58, 59, 60, 61, 62, 63, 64, 65, 66, 67, 68, 69, 70, 71, 72, 73, 74, 75, 76, 77, 78, 79, 80, 81, 82, 83, 84, 85, 86, 87, 88, 89, 90, 91, 92, 93, 94, 95, 96, 97, 98, 99, 100, 101, 102, 103, 104, 105, 106, 107, 0, 2, 3, 4, 112, 113, 114, 115, 116, 117, 118, 119, 120, 121, 122, 123, 124, 125, 126, 127, 128, 129] (by decide +kernel) (by decide +kernel)
set_option maxRecDepth 20000 in
theorem gX9_readSum_X9_term : GoodIn wsX9_readSum (wsV RX9 133 RX9 yX9_term wsX9_term) := goodIn_app (goodIn_of _ (by decide +kernel)) ggX9_readSum_X9_term
set_option maxRecDepth 20000 in
theorem ggX9_readSum_X9_isGood : GoodIn wsX9_readSum wsX9_isGood := goodIn_r _ [9, 10, 112, 113, 114, 115, 116, 117, 118, 119, 120, 121, 122, 123, 124, 125, 126, 127, 128, 129] (by decide +kernel) (by decide +kernel)
set_option maxRecDepth 20000 in
theorem gX9_readSum_X9_isGood : GoodIn wsX9_readSum (wsV RX9 69 RX9 yX9_isGood wsX9_isGood) := goodIn_app (goodIn_of _ (by decide +kernel)) ggX9_readSum_X9_isGood
set_option maxRecDepth 20000 in
theorem ggX9_readSum_X9_ahead : GoodIn wsX9_readSum wsX9_ahead := goodIn_r _ [14, 1, 15, 16, 17, 5, 18, 19, 20, 112, 113, 114, 115, 116, 117, 118, 119, 120, 121, 122, 123, 124, 125, 126, 127, 128, 129] (by decide +kernel) (by decide +kernel)
set_option maxRecDepth 20000 in
theorem gX9_readSum_X9_ahead : GoodIn wsX9_readSum (wsV RX9 73 RX9 yX9_ahead wsX9_ahead) := goodIn_app (goodIn_of _ (by decide +kernel)) ggX9_readSum_X9_ahead
set_option maxRecDepth 20000 in
theorem ggX9_readSum_X9_emit : GoodIn wsX9_readSum wsX9_emit := goodIn_r _ [24, 25, 6, 7, 8, 5, 9, 10, 112, 113, 114, 115, 116, 117, 118, 119, 120, 121, 122, 123, 124, 125, 126, 127, 128, 129] (by decide +kernel) (by decide +kernel)
set_option maxRecDepth 20000 in
theorem gX9_readSum_X9_emit : GoodIn wsX9_readSum (wsV RX9 127 RX9 yX9_emit wsX9_emit) := goodIn_app (goodIn_of _ (by decide +kernel)) ggX9_readSum_X9_emit
set_option maxRecDepth 20000 in
theorem ggX9_once_X9_report : GoodIn wsX9_once wsX9_report := goodIn_r _ [6, 7, 8, 9, 10, 11, 12, 13, 14, 15, 16, 17, 18, 19, 20, 21, 22, 23, 24, 25, 26] (by decide +kernel) (by decide +kernel)
set_option maxRecDepth 20000 in
theorem gX9_once_X9_report : GoodIn wsX9_once (wsV RX9 86 RX9 yX9_report wsX9_report) := goodIn_app (goodIn_of _ (by decide +kernel)) ggX9_once_X9_report
set_option maxRecDepth 20000 in
theorem ggX9_signed_X9_isGood : GoodIn wsX9_signed wsX9_isGood := goodIn_r _ [7, 8, 38, 39, 40, 41, 42, 43, 44, 45, 46, 47, 48, 49, 50, 51, 52, 53, 54, 55] (by decide +kernel) (by decide +kernel)
set_option maxRecDepth 20000 in
theorem gX9_signed_X9_isGood : GoodIn wsX9_signed (wsV RX9 69 RX9 yX9_isGood wsX9_isGood) := goodIn_app (goodIn_of _ (by decide +kernel)) ggX9_signed_X9_isGood
set_option maxRecDepth 20000 in
theorem ggX9_signed_X9_ahead : GoodIn wsX9_signed wsX9_ahead := goodIn_r _ [12, 1, 13, 14, 15, 6, 16, 17, 18, 38, 39, 40, 41, 42, 43, 44, 45, 46, 47, 48, 49, 50, 51, 52, 53, 54, 55] (by decide +kernel) (by decide +kernel)
set_option maxRecDepth 20000 in
theorem gX9_signed_X9_ahead : GoodIn wsX9_signed (wsV RX9 73 RX9 yX9_ahead wsX9_ahead) := goodIn_app (goodIn_of _ (by decide +kernel)) ggX9_signed_X9_ahead
set_option maxRecDepth 20000 in
theorem ggX9_signed_X9_number : GoodIn wsX9_signed wsX9_number := goodIn_r _ [22, 1, 23, 2, 3, 4, 5, 6, 7, 8, 9, 10, 11, 12, 13, 14, 15, 16, 17, 18, 24, 25, 26, 27, 28, 29, 30, 31, 32, 33, 34, 35, 36, 37, 38, 39, 40, 41, 42, 43, 44, 45, 46, 47, 48, 49, 50, 51, 52, 53, 54, 55] (by decide +kernel) (by decide +kernel)
set_option maxRecDepth 20000 in
theorem gX9_signed_X9_number : GoodIn wsX9_signed (wsV RX9 124 RX9 yX9_number wsX9_number) := goodIn_app (goodIn_of _ (by decide +kernel)) ggX9_signed_X9_number
set_option maxRecDepth 20000 in
theorem ggX9_signed_X9_report : GoodIn wsX9_signed wsX9_report := goodIn_r _ [33, 8, 34, 38, 39, 40, 41, 42, 43, 44, 45, 46, 47, 48, 49, 50, 51, 52, 53, 54, 55] (by decide +kernel) (by decide +kernel)
set_option maxRecDepth 20000 in
theorem gX9_signed_X9_report : GoodIn wsX9_signed (wsV RX9 86 RX9 yX9_report wsX9_report) := goodIn_app (goodIn_of _ (by decide +kernel)) ggX9_signed_X9_report
set_option maxRecDepth 20000 in
theorem ggX9_readClock_X9_number : GoodIn wsX9_readClock wsX9_number := goodIn_r _ [8, 9, 3, 10, 11, 12, 13, 7, 14, 15, 16, 17, 18, 19, 20, 21, 22, 23, 24, 25, 26, 27, 28, 29, 30, 31, 32, 33, 34, 35, 36, 37, 38, 39, 47, 48, 49, 50, 51, 52, 53, 54, 55, 56, 57, 58, 59, 60, 61, 62, 63, 64] (by decide +kernel) (by decide +kernel)
set_option maxRecDepth 20000 in
theorem gX9_readClock_X9_number : GoodIn wsX9_readClock (wsV RX9 124 RX9 yX9_number wsX9_number) := goodIn_app (goodIn_of _ (by decide +kernel)) ggX9_readClock_X9_number
set_option maxRecDepth 20000 in
theorem ggX9_readClock_X9_isGood : GoodIn wsX9_readClock wsX9_isGood := goodIn_r _ [14, 15, 47, 48, 49, 50, 51, 52, 53, 54, 55, 56, 57, 58, 59, 60, 61, 62, 63, 64] (by decide +kernel) (by decide +kernel)
set_option maxRecDepth 20000 in
theorem gX9_readClock_X9_isGood : GoodIn wsX9_readClock (wsV RX9 69 RX9 yX9_isGood wsX9_isGood) := goodIn_app (goodIn_of _ (by decide +kernel)) ggX9_readClock_X9_isGood
set_option maxRecDepth 20000 in
theorem ggX9_readClock_X9_report : GoodIn wsX9_readClock wsX9_report := goodIn_r _ [35, 15, 36, 47, 48, 49, 50, 51, 52, 53, 54, 55, 56, 57, 58, 59, 60, 61, 62, 63, 64] (by decide +kernel) (by decide +kernel)
set_option maxRecDepth 20000 in
theorem gX9_readClock_X9_report : GoodIn wsX9_readClock (wsV RX9 86 RX9 yX9_report wsX9_report) := goodIn_app (goodIn_of _ (by decide +kernel)) ggX9_readClock_X9_report
set_option maxRecDepth 20000 in
theorem ggX9_readClock_X9_signed : GoodIn wsX9_readClock wsX9_signed := goodIn_r _ [43, 9, 10, 11, 12, 13, 7, 14, 15, 16, 17, 18, 19, 20, 21, 22, 23, 24, 25, 4, 5, 6, 8, 3, 26, 27, 28, 29, 30, 31, 32, 33, 34, 35, 36, 37, 38, 39, 47, 48, 49, 50, 51, 52, 53, 54, 55, 56, 57, 58, 59, 60, 61, 62, 63, 64] (by decide +kernel) (by decide +kernel)
set_option maxRecDepth 20000 in
theorem gX9_readClock_X9_signed : GoodIn wsX9_readClock (wsV RX9 142 RX9 yX9_signed wsX9_signed) := goodIn_app (goodIn_of _ (by decide +kernel)) ggX9_readClock_X9_signed
set_option maxRecDepth 20000 in
theorem ggX9_readClock_X9_playerAt : GoodIn wsX9_readClock wsX9_playerAt := goodIn_r _ [46] (by decide +kernel) (by decide +kernel)
set_option maxRecDepth 20000 in
theorem gX9_readClock_X9_playerAt : GoodIn wsX9_readClock (va_wsS RX9 43 yX9_playerAt wsX9_playerAt) := goodIn_app (goodIn_of _ (by decide +kernel)) ggX9_readClock_X9_playerAt
set_option maxRecDepth 20000 in
theorem ggX9_readLink_X9_number : GoodIn wsX9_readLink wsX9_number := goodIn_r _ [7, 8, 2, 9, 10, 11, 12, 6, 13, 14, 15, 16, 17, 18, 19, 20, 21, 22, 23, 24, 25, 26, 27, 28, 29, 30, 31, 32, 33, 34, 35, 36, 37, 38, 42, 43, 44, 45, 46, 47, 48, 49, 50, 51, 52, 53, 54, 55, 56, 57, 58, 59] (by decide +kernel) (by decide +kernel)
set_option maxRecDepth 20000 in
theorem gX9_readLink_X9_number : GoodIn wsX9_readLink (wsV RX9 124 RX9 yX9_number wsX9_number) := goodIn_app (goodIn_of _ (by decide +kernel)) ggX9_readLink_X9_number
set_option maxRecDepth 20000 in
theorem ggX9_readLink_X9_isGood : GoodIn wsX9_readLink wsX9_isGood := goodIn_r _ [13, 14, 42, 43, 44, 45, 46, 47, 48, 49, 50, 51, 52, 53, 54, 55, 56, 57, 58, 59] (by decide +kernel) (by decide +kernel)
set_option maxRecDepth 20000 in
theorem gX9_readLink_X9_isGood : GoodIn wsX9_readLink (wsV RX9 69 RX9 yX9_isGood wsX9_isGood) := goodIn_app (goodIn_of _ (by decide +kernel)) ggX9_readLink_X9_isGood
set_option maxRecDepth 20000 in
theorem ggX9_readLink_X9_linkAt : GoodIn wsX9_readLink wsX9_linkAt := goodIn_r _ [41] (by decide +kernel) (by decide +kernel)
