set_option maxRecDepth 20000 in
theorem gX9_readLink_X9_linkAt : GoodIn wsX9_readLink (va_wsS RX9 145 yX9_linkAt wsX9_linkAt) := goodIn_app (goodIn_of _ (by decide +kernel)) ggX9_readLink_X9_linkAt
set_option maxRecDepth 20000 in
theorem ggX9_readLink_X9_report : GoodIn wsX9_readLink wsX9_report := goodIn_r _ [34, 14, 35, 42, 43, 44, 45, 46, 47, 48, 49, 50, 51, 52, 53, 54, 55, 56, 57, 58, 59] (by decide +kernel) (by decide +kernel)
set_option maxRecDepth 20000 in
theorem gX9_readLink_X9_report : GoodIn wsX9_readLink (wsV RX9 86 RX9 yX9_report wsX9_report) := goodIn_app (goodIn_of _ (by decide +kernel)) ggX9_readLink_X9_report
set_option maxRecDepth 20000 in
theorem ggX9_statement_X9_ahead : GoodIn wsX9_statement wsX9_ahead := goodIn_r _ [7, 1, 8, 9, 10, 6, 11, 12, 13, 137, 138, 139, 140, 141, 142, 143, 144, 145, 146, 147, 148, 149, 150, 151, 152, 153, 154] (by decide +kernel) (by decide +kernel)
set_option maxRecDepth 20000 in
theorem gX9_statement_X9_ahead : GoodIn wsX9_statement (wsV RX9 73 RX9 yX9_ahead wsX9_ahead) := goodIn_app (goodIn_of _ (by decide +kernel)) ggX9_statement_X9_ahead
set_option maxRecDepth 20000 in
theorem ggX9_statement_X9_takeWord : GoodIn wsX9_statement wsX9_takeWord := goodIn_r _ [17, 1, 18, 19, 20, 6, 21, 22, 3, 4, 5, 7, 8, 9, 10, 11, 12, 13, 23, 24, 25, 26, 27, 28, 29, 30, 31, 32, 33, 34, 35, 36, 37, 38, 39, 40, 41, 42, 43, 44, 45, 46, 47, 48, 49, 50, 51, 52, 53, 54, 55, 56, 57, 58, 59, 60, 61, 62, 63, 64, 65, 66, 67, 68, 69, 70, 71, 72, 73, 74, 137, 138, 139, 140, 141, 142, 143, 144, 145, 146, 147, 148, 149, 150, 151, 152, 153, 154] (by decide +kernel) (by decide +kernel)
set_option maxRecDepth 20000 in
theorem gX9_statement_X9_takeWord : GoodIn wsX9_statement (wsV RX9 114 RX9 yX9_takeWord wsX9_takeWord) := goodIn_app (goodIn_of _ (by decide +kernel)) ggX9_statement_X9_takeWord
set_option maxRecDepth 20000 in
theorem ggX9_statement_X9_readClock : GoodIn wsX9_statement wsX9_readClock := goodIn_r _ [78, 2, 79, 80, 81, 82, 83, 6, 84, 1, 85, 18, 19, 20, 21, 22, 3, 4, 5, 7, 8, 9, 10, 11, 12, 13, 86, 87, 88, 72, 73, 74, 89, 90, 91, 92, 93, 94, 95, 96, 97, 98, 99, 100, 101, 102, 103, 137, 138, 139, 140, 141, 142, 143, 144, 145, 146, 147, 148, 149, 150, 151, 152, 153, 154] (by decide +kernel) (by decide +kernel)
set_option maxRecDepth 20000 in
theorem gX9_statement_X9_readClock : GoodIn wsX9_statement (wsV RX9 150 RX9 yX9_readClock wsX9_readClock) := goodIn_app (goodIn_of _ (by decide +kernel)) ggX9_statement_X9_readClock
set_option maxRecDepth 20000 in
theorem ggX9_statement_X9_readLink : GoodIn wsX9_statement wsX9_readLink := goodIn_r _ [107, 2, 80, 81, 82, 83, 6, 84, 1, 85, 18, 19, 20, 21, 22, 3, 4, 5, 7, 8, 9, 10, 11, 12, 13, 86, 87, 88, 72, 73, 74, 89, 90, 91, 92, 93, 94, 95, 96, 108, 109, 110, 137, 138, 139, 140, 141, 142, 143, 144, 145, 146, 147, 148, 149, 150, 151, 152, 153, 154] (by decide +kernel) (by decide +kernel)
set_option maxRecDepth 20000 in
theorem gX9_statement_X9_readLink : GoodIn wsX9_statement (wsV RX9 155 RX9 yX9_readLink wsX9_readLink) := goodIn_app (goodIn_of _ (by decide +kernel)) ggX9_statement_X9_readLink
set_option maxRecDepth 20000 in
theorem ggX9_statement_X9_once : GoodIn wsX9_statement wsX9_once := goodIn_r _ [114, 115, 89, 90, 91, 6, 92, 22, 93, 137, 138, 139, 140, 141, 142, 143, 144, 145, 146, 147, 148, 149, 150, 151, 152, 153, 154] (by decide +kernel) (by decide +kernel)
set_option maxRecDepth 20000 in
theorem gX9_statement_X9_once : GoodIn wsX9_statement (wsV RX9 160 RX9 yX9_once wsX9_once) := goodIn_app (goodIn_of _ (by decide +kernel)) ggX9_statement_X9_once
set_option maxRecDepth 20000 in
theorem ggX9_statement_X9_number : GoodIn wsX9_statement wsX9_number := goodIn_r _ [84, 1, 80, 85, 18, 19, 20, 6, 21, 22, 3, 4, 5, 7, 8, 9, 10, 11, 12, 13, 86, 87, 88, 72, 73, 74, 89, 90, 91, 92, 93, 94, 95, 96, 137, 138, 139, 140, 141, 142, 143, 144, 145, 146, 147, 148, 149, 150, 151, 152, 153, 154] (by decide +kernel) (by decide +kernel)
set_option maxRecDepth 20000 in
theorem gX9_statement_X9_number : GoodIn wsX9_statement (wsV RX9 124 RX9 yX9_number wsX9_number) := goodIn_app (goodIn_of _ (by decide +kernel)) ggX9_statement_X9_number
set_option maxRecDepth 20000 in
theorem ggX9_statement_X9_readSum : GoodIn wsX9_statement wsX9_readSum := goodIn_r _ [119, 1, 120, 121, 122, 6, 18, 19, 20, 21, 22, 3, 4, 5, 7, 8, 9, 10, 11, 12, 13, 123, 124, 125, 126, 2, 127, 128, 89, 90, 91, 92, 93, 116, 117, 118, 129, 130, 131, 132, 86, 87, 88, 72, 73, 74, 14, 15, 16, 17, 23, 24, 25, 26, 27, 28, 29, 30, 31, 32, 33, 34, 35, 36, 37, 38, 39, 40, 41, 42, 43, 44, 45, 46, 47, 48, 49, 50, 51, 52, 53, 54, 55, 56, 57, 58, 59, 60, 61, 62, 63, 64, 65, 66, 67, 68, 69, 70, 71, 81, 82, 83, 84, 80, 85, 94, 95, 96, 133, 134, 135, 136, 137, 138, 139, 140, 141, 142, 143, 144, 145, 146, 147, 148, 149, 150, 151, 152, 153, 154] (by decide +kernel) (by decide +kernel)
set_option maxRecDepth 20000 in
theorem gX9_statement_X9_readSum : GoodIn wsX9_statement (wsV RX9 105 RX9 yX9_readSum wsX9_readSum) := goodIn_app (goodIn_of _ (by decide +kernel)) ggX9_statement_X9_readSum
set_option maxRecDepth 20000 in
theorem ggX9_statement_X9_report : GoodIn wsX9_statement wsX9_report := goodIn_r _ [92, 22, 93, 137, 138, 139, 140, 141, 142, 143, 144, 145, 146, 147, 148, 149, 150, 151, 152, 153, 154] (by decide +kernel) (by decide +kernel)
set_option maxRecDepth 20000 in
theorem gX9_statement_X9_report : GoodIn wsX9_statement (wsV RX9 86 RX9 yX9_report wsX9_report) := goodIn_app (goodIn_of _ (by decide +kernel)) ggX9_statement_X9_report
set_option maxRecDepth 20000 in
theorem ggX9_statement_X9_expect : GoodIn wsX9_statement wsX9_expect := goodIn_r _ [132, 1, 18, 19, 20, 6, 21, 22, 3, 4, 5, 7, 8, 9, 10, 11, 12, 13, 89, 90, 91, 92, 93, 137, 138, 139, 140, 141, 142, 143, 144, 145, 146, 147, 148, 149, 150, 151, 152, 153, 154] (by decide +kernel) (by decide +kernel)
set_option maxRecDepth 20000 in
theorem gX9_statement_X9_expect : GoodIn wsX9_statement (wsV RX9 108 RX9 yX9_expect wsX9_expect) := goodIn_app (goodIn_of _ (by decide +kernel)) ggX9_statement_X9_expect
set_option maxRecDepth 20000 in
theorem ggX9_load_X9_in : GoodIn wsX9_load wsX9_in := goodIn_r _ [16] (by decide +kernel) (by decide +kernel)
set_option maxRecDepth 20000 in
theorem gX9_load_X9_in : GoodIn wsX9_load (va_wsS RX9 65 yX9_in wsX9_in) := goodIn_app (goodIn_of _ (by decide +kernel)) ggX9_load_X9_in
set_option maxRecDepth 20000 in
theorem ggX9_load_X9_fails : GoodIn wsX9_load wsX9_fails := goodIn_r _ [20, 1, 161, 162, 163, 164, 165, 166, 167, 168, 169, 170, 171, 172, 173, 174, 175, 176, 177, 178] (by decide +kernel) (by decide +kernel)
set_option maxRecDepth 20000 in
theorem gX9_load_X9_fails : GoodIn wsX9_load (wsV RX9 167 RX9 yX9_fails wsX9_fails) := goodIn_app (goodIn_of _ (by decide +kernel)) ggX9_load_X9_fails
set_option maxRecDepth 20000 in
theorem ggX9_load_X9_takeWord : GoodIn wsX9_load wsX9_takeWord := goodIn_r _ [24, 4, 25, 26, 27, 15, 28, 5, 29, 30, 31, 32, 33, 34, 35, 36, 3, 37, 38, 39, 40, 41, 42, 43, 44, 45, 46, 47, 48, 49, 50, 51, 52, 53, 54, 55, 56, 57, 58, 59, 60, 61, 62, 63, 64, 65, 66, 67, 68, 69, 70, 71, 72, 73, 74, 75, 76, 77, 78, 79, 80, 81, 82, 83, 84, 85, 86, 13, 14, 16, 161, 162, 163, 164, 165, 166, 167, 168, 169, 170, 171, 172, 173, 174, 175, 176, 177, 178] (by decide +kernel) (by decide +kernel)
set_option maxRecDepth 20000 in
theorem gX9_load_X9_takeWord : GoodIn wsX9_load (wsV RX9 114 RX9 yX9_takeWord wsX9_takeWord) := goodIn_app (goodIn_of _ (by decide +kernel)) ggX9_load_X9_takeWord
set_option maxRecDepth 20000 in
theorem ggX9_load_X9_report : GoodIn wsX9_load wsX9_report := goodIn_r _ [90, 5, 6, 161, 162, 163, 164, 165, 166, 167, 168, 169, 170, 171, 172, 173, 174, 175, 176, 177, 178] (by decide +kernel) (by decide +kernel)
set_option maxRecDepth 20000 in
theorem gX9_load_X9_report : GoodIn wsX9_load (wsV RX9 86 RX9 yX9_report wsX9_report) := goodIn_app (goodIn_of _ (by decide +kernel)) ggX9_load_X9_report
set_option maxRecDepth 20000 in
theorem ggX9_load_X9_number : GoodIn wsX9_load wsX9_number := goodIn_r _ [94, 4, 95, 96, 25, 26, 27, 15, 28, 5, 29, 30, 31, 32, 33, 34, 35, 36, 3, 37, 97, 98, 99, 13, 14, 16, 87, 88, 89, 90, 6, 100, 101, 102, 161, 162, 163, 164, 165, 166, 167, 168, 169, 170, 171, 172, 173, 174, 175, 176, 177, 178] (by decide +kernel) (by decide +kernel)
set_option maxRecDepth 20000 in
theorem gX9_load_X9_number : GoodIn wsX9_load (wsV RX9 124 RX9 yX9_number wsX9_number) := goodIn_app (goodIn_of _ (by decide +kernel)) ggX9_load_X9_number
set_option maxRecDepth 20000 in
theorem ggX9_load_X9_layPlayers : GoodIn wsX9_load wsX9_layPlayers := goodIn_r _ [105, 106, 107, 15, 108] (by decide +kernel) (by decide +kernel)
set_option maxRecDepth 20000 in
theorem gX9_load_X9_layPlayers : GoodIn wsX9_load (va_wsS RX9 36 yX9_layPlayers wsX9_layPlayers) := goodIn_app (goodIn_of _ (by decide +kernel)) ggX9_load_X9_layPlayers
set_option maxRecDepth 20000 in
theorem ggX9_load_X9_expect : GoodIn wsX9_load wsX9_expect := goodIn_r _ [112, 4, 25, 26, 27, 15, 28, 5, 29, 30, 31, 32, 33, 34, 35, 36, 3, 37, 87, 88, 89, 90, 6, 161, 162, 163, 164, 165, 166, 167, 168, 169, 170, 171, 172, 173, 174, 175, 176, 177, 178] (by decide +kernel) (by decide +kernel)
set_option maxRecDepth 20000 in
theorem gX9_load_X9_expect : GoodIn wsX9_load (wsV RX9 108 RX9 yX9_expect wsX9_expect) := goodIn_app (goodIn_of _ (by decide +kernel)) ggX9_load_X9_expect
set_option maxRecDepth 20000 in
theorem ggX9_load_X9_isGood : GoodIn wsX9_load wsX9_isGood := goodIn_r _ [28, 5, 161, 162, 163, 164, 165, 166, 167, 168, 169, 170, 171, 172, 173, 174, 175, 176, 177, 178] (by decide +kernel) (by decide +kernel)
set_option maxRecDepth 20000 in
theorem gX9_load_X9_isGood : GoodIn wsX9_load (wsV RX9 69 RX9 yX9_isGood wsX9_isGood) := goodIn_app (goodIn_of _ (by decide +kernel)) ggX9_load_X9_isGood
set_option maxRecDepth 20000 in
theorem ggX9_load_X9_ahead : GoodIn wsX9_load wsX9_ahead := goodIn_r _ [32, 4, 33, 34, 35, 15, 36, 3, 37, 161, 162, 163, 164, 165, 166, 167, 168, 169, 170, 171, 172, 173, 174, 175, 176, 177, 178] (by decide +kernel) (by decide +kernel)
set_option maxRecDepth 20000 in
theorem gX9_load_X9_ahead : GoodIn wsX9_load (wsV RX9 73 RX9 yX9_ahead wsX9_ahead) := goodIn_app (goodIn_of _ (by decide +kernel)) ggX9_load_X9_ahead
set_option maxRecDepth 20000 in
theorem ggX9_load_X9_statement : GoodIn wsX9_load wsX9_statement := goodIn_r _ [116, 4, 10, 29, 30, 31, 15, 32, 33, 34, 35, 36, 3, 37, 21, 22, 23, 24, 25, 26, 27, 28, 5, 38, 39, 40, 41, 42, 43, 44, 45, 46, 47, 48, 49, 50, 51, 52, 53, 54, 55, 56, 57, 58, 59, 60, 61, 62, 63, 64, 65, 66, 67, 68, 69, 70, 71, 72, 73, 74, 75, 76, 77, 78, 79, 80, 81, 82, 83, 84, 85, 86, 13, 14, 16, 117, 118, 119, 120, 9, 95, 91, 92, 93, 94, 96, 97, 98, 99, 87, 88, 89, 90, 6, 100, 101, 102, 121, 122, 123, 124, 106, 107, 108, 125, 126, 127, 128, 129, 130, 131, 132, 133, 134, 135, 8, 136, 137, 138, 139, 140, 141, 142, 143, 144, 145, 146, 147, 7, 109, 110, 111, 112, 148, 149, 150, 151, 161, 162, 163, 164, 165, 166, 167, 168, 169, 170, 171, 172, 173, 174, 175, 176, 177, 178] (by decide +kernel) (by decide +kernel)
set_option maxRecDepth 20000 in
theorem gX9_load_X9_statement : GoodIn wsX9_load (wsV RX9 171 RX9 yX9_statement wsX9_statement) := goodIn_app (goodIn_of _ (by decide +kernel)) ggX9_load_X9_statement
set_option maxRecDepth 20000 in
theorem ggX9_load_X9_remember : GoodIn wsX9_load wsX9_remember := goodIn_r _ [155, 156, 157, 12, 158, 159, 15, 160, 161, 162, 163, 164, 165, 166, 167, 168, 169, 170, 171, 172, 173, 174, 175, 176, 177, 178] (by decide +kernel) (by decide +kernel)
set_option maxRecDepth 20000 in
theorem gX9_load_X9_remember : GoodIn wsX9_load (wsV RX9 174 RX9 yX9_remember wsX9_remember) := goodIn_app (goodIn_of _ (by decide +kernel)) ggX9_load_X9_remember
set_option maxRecDepth 20000 in
theorem ggX9_load_X9_copy : GoodIn wsX9_load wsX9_copy := goodIn_r _ [160] (by decide +kernel) (by decide +kernel)
set_option maxRecDepth 20000 in
theorem gX9_load_X9_copy : GoodIn wsX9_load (va_wsS RX9 177 yX9_copy wsX9_copy) := goodIn_app (goodIn_of _ (by decide +kernel)) ggX9_load_X9_copy
set_option maxRecDepth 20000 in
theorem ggX9_of_X9_playerAt : GoodIn wsX9_of wsX9_playerAt := goodIn_r _ [5] (by decide +kernel) (by decide +kernel)
set_option maxRecDepth 20000 in
theorem gX9_of_X9_playerAt : GoodIn wsX9_of (va_wsS RX9 43 yX9_playerAt wsX9_playerAt) := goodIn_app (goodIn_of _ (by decide +kernel)) ggX9_of_X9_playerAt
set_option maxRecDepth 20000 in
theorem ggX9_set_X9_playerAt : GoodIn wsX9_set wsX9_playerAt := goodIn_r _ [5] (by decide +kernel) (by decide +kernel)
set_option maxRecDepth 20000 in
theorem gX9_set_X9_playerAt : GoodIn wsX9_set (va_wsS RX9 43 yX9_playerAt wsX9_playerAt) := goodIn_app (goodIn_of _ (by decide +kernel)) ggX9_set_X9_playerAt
set_option maxRecDepth 20000 in
theorem ggX9_isUp_X9_of : GoodIn wsX9_isUp wsX9_of := goodIn_r _ [5, 6, 7, 8, 4, 9, 10, 11, 12, 13, 14, 15, 16, 17, 18, 19, 20, 21, 22, 23, 24, 25, 26, 27] (by decide +kernel) (by decide +kernel)
set_option maxRecDepth 20000 in
theorem gX9_isUp_X9_of : GoodIn wsX9_isUp (wsV RX9 181 RX9 yX9_of wsX9_of) := goodIn_app (goodIn_of _ (by decide +kernel)) ggX9_isUp_X9_of
set_option maxRecDepth 20000 in
theorem ggX9_clock_X9_of : GoodIn wsX9_clock wsX9_of := goodIn_r _ [6, 1, 7, 8, 5, 9, 10, 11, 12, 13, 14, 15, 16, 17, 18, 19, 20, 21, 22, 23, 24, 25, 26, 27] (by decide +kernel) (by decide +kernel)
set_option maxRecDepth 20000 in
theorem gX9_clock_X9_of : GoodIn wsX9_clock (wsV RX9 181 RX9 yX9_of wsX9_of) := goodIn_app (goodIn_of _ (by decide +kernel)) ggX9_clock_X9_of
set_option maxRecDepth 20000 in
theorem ggX9_estimate_X9_clock : GoodIn wsX9_estimate wsX9_clock := goodIn_r _ [5, 6, 7, 8, 9, 4, 10, 11, 12, 13, 14, 15, 16, 17, 18, 19, 20, 21, 22, 23, 24, 25, 26, 27, 28, 29, 30, 31] (by decide +kernel) (by decide +kernel)
set_option maxRecDepth 20000 in
theorem gX9_estimate_X9_clock : GoodIn wsX9_estimate (wsV RX9 184 RX9 yX9_clock wsX9_clock) := goodIn_app (goodIn_of _ (by decide +kernel)) ggX9_estimate_X9_clock
set_option maxRecDepth 20000 in
theorem ggX9_estimate_X9_of : GoodIn wsX9_estimate wsX9_of := goodIn_r _ [10, 6, 11, 12, 4, 13, 14, 15, 16, 17, 18, 19, 20, 21, 22, 23, 24, 25, 26, 27, 28, 29, 30, 31] (by decide +kernel) (by decide +kernel)
set_option maxRecDepth 20000 in
theorem gX9_estimate_X9_of : GoodIn wsX9_estimate (wsV RX9 181 RX9 yX9_of wsX9_of) := goodIn_app (goodIn_of _ (by decide +kernel)) ggX9_estimate_X9_of
set_option maxRecDepth 20000 in
theorem ggX9_longestDelay_X9_max : GoodIn wsX9_longestDelay wsX9_max := goodIn_r _ [5] (by decide +kernel) (by decide +kernel)
set_option maxRecDepth 20000 in
theorem gX9_longestDelay_X9_max : GoodIn wsX9_longestDelay (va_wsS RX9 186 yX9_max wsX9_max) := goodIn_app (goodIn_of _ (by decide +kernel)) ggX9_longestDelay_X9_max
set_option maxRecDepth 20000 in
theorem ggX9_playersUp_X9_of : GoodIn wsX9_playersUp wsX9_of := goodIn_r _ [6, 1, 7, 8, 5, 9, 10, 11, 12, 13, 14, 15, 16, 17, 18, 19, 20, 21, 22, 23, 24, 25, 26, 27] (by decide +kernel) (by decide +kernel)
set_option maxRecDepth 20000 in
theorem gX9_playersUp_X9_of : GoodIn wsX9_playersUp (wsV RX9 181 RX9 yX9_of wsX9_of) := goodIn_app (goodIn_of _ (by decide +kernel)) ggX9_playersUp_X9_of
set_option maxRecDepth 20000 in
theorem ggX9_operate_X9_limited : GoodIn wsX9_operate wsX9_limited := goodIn_r _ [4, 5, 6] (by decide +kernel) (by decide +kernel)
set_option maxRecDepth 20000 in
theorem gX9_operate_X9_limited : GoodIn wsX9_operate (va_wsS RX9 193 yX9_limited wsX9_limited) := goodIn_app (goodIn_of _ (by decide +kernel)) ggX9_operate_X9_limited
set_option maxRecDepth 20000 in
theorem ggX9_fact_X9_longestDelay : GoodIn wsX9_fact wsX9_longestDelay := goodIn_r _ [6, 1, 7, 8, 5, 9, 21, 22, 23, 24, 25, 26, 27, 28, 29, 30, 31, 32, 33, 34, 35, 36, 37, 38] (by decide +kernel) (by decide +kernel)
set_option maxRecDepth 20000 in
theorem gX9_fact_X9_longestDelay : GoodIn wsX9_fact (wsV RX9 197 RX9 yX9_longestDelay wsX9_longestDelay) := goodIn_app (goodIn_of _ (by decide +kernel)) ggX9_fact_X9_longestDelay
set_option maxRecDepth 20000 in
theorem ggX9_fact_X9_playersUp : GoodIn wsX9_fact wsX9_playersUp := goodIn_r _ [13, 1, 14, 15, 16, 5, 17, 18, 19, 20, 21, 22, 23, 24, 25, 26, 27, 28, 29, 30, 31, 32, 33, 34, 35, 36, 37, 38] (by decide +kernel) (by decide +kernel)
set_option maxRecDepth 20000 in
theorem gX9_fact_X9_playersUp : GoodIn wsX9_fact (wsV RX9 200 RX9 yX9_playersUp wsX9_playersUp) := goodIn_app (goodIn_of _ (by decide +kernel)) ggX9_fact_X9_playersUp
set_option maxRecDepth 20000 in
theorem ggX9_expression_X9_fact : GoodIn wsX9_expression wsX9_fact := goodIn_r _ [7, 2, 8, 9, 10, 6, 11, 12, 13, 14, 15, 16, 17, 18, 19, 20, 21, 22, 23, 24, 25, 34, 35, 36, 37, 38, 39, 40, 41, 42, 43, 44, 45, 46, 47, 48, 49, 50, 51] (by decide +kernel) (by decide +kernel)
set_option maxRecDepth 20000 in
theorem gX9_expression_X9_fact : GoodIn wsX9_expression (wsV RX9 203 RX9 yX9_fact wsX9_fact) := goodIn_app (goodIn_of _ (by decide +kernel)) ggX9_expression_X9_fact
set_option maxRecDepth 20000 in
theorem ggX9_expression_X9_operate : GoodIn wsX9_expression wsX9_operate := goodIn_r _ [28, 29, 30, 6, 31, 32, 33] (by decide +kernel) (by decide +kernel)
set_option maxRecDepth 20000 in
theorem gX9_expression_X9_operate : GoodIn wsX9_expression (va_wsS RX9 206 yX9_operate wsX9_operate) := goodIn_app (goodIn_of _ (by decide +kernel)) ggX9_expression_X9_operate
set_option maxRecDepth 20000 in
theorem ggX9_margin_X9_expression : GoodIn wsX9_margin wsX9_expression := goodIn_r _ [6, 7, 1, 8, 9, 10, 5, 11, 12, 13, 14, 15, 16, 17, 18, 19, 20, 21, 22, 23, 24, 25, 26, 27, 28, 29, 30, 31, 32, 33, 34, 35, 36, 37, 41, 42, 43, 44, 45, 46, 47, 48, 49, 50, 51, 52, 53, 54, 55, 56, 57, 58] (by decide +kernel) (by decide +kernel)
set_option maxRecDepth 20000 in
theorem gX9_margin_X9_expression : GoodIn wsX9_margin (wsV RX9 210 RX9 yX9_expression wsX9_expression) := goodIn_app (goodIn_of _ (by decide +kernel)) ggX9_margin_X9_expression
set_option maxRecDepth 20000 in
theorem ggX9_margin_X9_longestDelay : GoodIn wsX9_margin wsX9_longestDelay := goodIn_r _ [15, 1, 16, 17, 5, 18, 41, 42, 43, 44, 45, 46, 47, 48, 49, 50, 51, 52, 53, 54, 55, 56, 57, 58] (by decide +kernel) (by decide +kernel)
set_option maxRecDepth 20000 in
theorem gX9_margin_X9_longestDelay : GoodIn wsX9_margin (wsV RX9 197 RX9 yX9_longestDelay wsX9_longestDelay) := goodIn_app (goodIn_of _ (by decide +kernel)) ggX9_margin_X9_longestDelay
set_option maxRecDepth 20000 in
theorem ggX9_margin_X9_min : GoodIn wsX9_margin wsX9_min := goodIn_r _ [40] (by decide +kernel) (by decide +kernel)
set_option maxRecDepth 20000 in
theorem gX9_margin_X9_min : GoodIn wsX9_margin (va_wsS RX9 98 yX9_min wsX9_min) := goodIn_app (goodIn_of _ (by decide +kernel)) ggX9_margin_X9_min
set_option maxRecDepth 20000 in
theorem ggX9_margin_X9_max : GoodIn wsX9_margin wsX9_max := goodIn_r _ [18] (by decide +kernel) (by decide +kernel)
set_option maxRecDepth 20000 in
theorem gX9_margin_X9_max : GoodIn wsX9_margin (va_wsS RX9 186 yX9_max wsX9_max) := goodIn_app (goodIn_of _ (by decide +kernel)) ggX9_margin_X9_max
set_option maxRecDepth 20000 in
theorem ggX9_send_X9_linkAt : GoodIn wsX9_send wsX9_linkAt := goodIn_r _ [5] (by decide +kernel) (by decide +kernel)
set_option maxRecDepth 20000 in
theorem gX9_send_X9_linkAt : GoodIn wsX9_send (va_wsS RX9 145 yX9_linkAt wsX9_linkAt) := goodIn_app (goodIn_of _ (by decide +kernel)) ggX9_send_X9_linkAt
set_option maxRecDepth 20000 in
theorem ggX9_sendToOthers_X9_send : GoodIn wsX9_sendToOthers wsX9_send := goodIn_r _ [6, 1, 7, 8, 5, 9, 10, 11, 12, 13, 14, 15, 16, 17, 18, 19, 20, 21, 22, 23, 24, 25, 26, 27] (by decide +kernel) (by decide +kernel)
set_option maxRecDepth 20000 in
theorem gX9_sendToOthers_X9_send : GoodIn wsX9_sendToOthers (wsV RX9 213 RX9 yX9_send wsX9_send) := goodIn_app (goodIn_of _ (by decide +kernel)) ggX9_sendToOthers_X9_send
set_option maxRecDepth 20000 in
theorem ggX9_plan_X9_of : GoodIn wsX9_plan wsX9_of := goodIn_r _ [5, 6, 7, 8, 4, 9, 14, 15, 16, 17, 18, 19, 20, 21, 22, 23, 24, 25, 26, 27, 28, 29, 30, 31] (by decide +kernel) (by decide +kernel)
set_option maxRecDepth 20000 in
theorem gX9_plan_X9_of : GoodIn wsX9_plan (wsV RX9 181 RX9 yX9_of wsX9_of) := goodIn_app (goodIn_of _ (by decide +kernel)) ggX9_plan_X9_of
set_option maxRecDepth 20000 in
theorem ggX9_plan_X9_set : GoodIn wsX9_plan wsX9_set := goodIn_r _ [13, 6, 7, 8, 4, 9, 14, 15, 16, 17, 18, 19, 20, 21, 22, 23, 24, 25, 26, 27, 28, 29, 30, 31] (by decide +kernel) (by decide +kernel)
set_option maxRecDepth 20000 in
theorem gX9_plan_X9_set : GoodIn wsX9_plan (wsV RX9 217 RX9 yX9_set wsX9_set) := goodIn_app (goodIn_of _ (by decide +kernel)) ggX9_plan_X9_set
set_option maxRecDepth 20000 in
theorem ggX9_dropPlan_X9_set : GoodIn wsX9_dropPlan wsX9_set := goodIn_r _ [5, 6, 7, 8, 4, 9, 10, 11, 12, 13, 14, 15, 16, 17, 18, 19, 20, 21, 22, 23, 24, 25, 26, 27] (by decide +kernel) (by decide +kernel)
set_option maxRecDepth 20000 in
theorem gX9_dropPlan_X9_set : GoodIn wsX9_dropPlan (wsV RX9 217 RX9 yX9_set wsX9_set) := goodIn_app (goodIn_of _ (by decide +kernel)) ggX9_dropPlan_X9_set
set_option maxRecDepth 20000 in
theorem ggX9_vote_X9_plan : GoodIn wsX9_vote wsX9_plan := goodIn_r _ [6, 7, 8, 9, 5, 10, 1, 11, 12, 13, 14, 15, 16, 17, 29, 30, 31, 32, 33, 34, 35, 36, 37, 38, 39, 40, 41, 42, 43, 44, 45, 46] (by decide +kernel) (by decide +kernel)
set_option maxRecDepth 20000 in
theorem gX9_vote_X9_plan : GoodIn wsX9_vote (wsV RX9 221 RX9 yX9_plan wsX9_plan) := goodIn_app (goodIn_of _ (by decide +kernel)) ggX9_vote_X9_plan
set_option maxRecDepth 20000 in
theorem ggX9_vote_X9_sendToOthers : GoodIn wsX9_vote wsX9_sendToOthers := goodIn_r _ [21, 1, 22, 23, 24, 5, 25, 26, 27, 28, 29, 30, 31, 32, 33, 34, 35, 36, 37, 38, 39, 40, 41, 42, 43, 44, 45, 46] (by decide +kernel) (by decide +kernel)
set_option maxRecDepth 20000 in
theorem gX9_vote_X9_sendToOthers : GoodIn wsX9_vote (wsV RX9 225 RX9 yX9_sendToOthers wsX9_sendToOthers) := goodIn_app (goodIn_of _ (by decide +kernel)) ggX9_vote_X9_sendToOthers
set_option maxRecDepth 20000 in
theorem ggX9_handle_X9_isUp : GoodIn wsX9_handle wsX9_isUp := goodIn_r _ [6, 7, 8, 9, 5, 10, 1, 11, 12, 13, 49, 50, 51, 52, 53, 54, 55, 56, 57, 58, 59, 60, 61, 62, 63, 64, 65, 66] (by decide +kernel) (by decide +kernel)
set_option maxRecDepth 20000 in
theorem gX9_handle_X9_isUp : GoodIn wsX9_handle (wsV RX9 228 RX9 yX9_isUp wsX9_isUp) := goodIn_app (goodIn_of _ (by decide +kernel)) ggX9_handle_X9_isUp
set_option maxRecDepth 20000 in
theorem ggX9_handle_X9_clock : GoodIn wsX9_handle wsX9_clock := goodIn_r _ [17, 1, 7, 8, 9, 5, 10, 11, 12, 13, 49, 50, 51, 52, 53, 54, 55, 56, 57, 58, 59, 60, 61, 62, 63, 64, 65, 66] (by decide +kernel) (by decide +kernel)
set_option maxRecDepth 20000 in
theorem gX9_handle_X9_clock : GoodIn wsX9_handle (wsV RX9 184 RX9 yX9_clock wsX9_clock) := goodIn_app (goodIn_of _ (by decide +kernel)) ggX9_handle_X9_clock
set_option maxRecDepth 20000 in
theorem ggX9_handle_X9_send : GoodIn wsX9_handle wsX9_send := goodIn_r _ [21, 1, 22, 23, 5, 24, 49, 50, 51, 52, 53, 54, 55, 56, 57, 58, 59, 60, 61, 62, 63, 64, 65, 66] (by decide +kernel) (by decide +kernel)
set_option maxRecDepth 20000 in
theorem gX9_handle_X9_send : GoodIn wsX9_handle (wsV RX9 213 RX9 yX9_send wsX9_send) := goodIn_app (goodIn_of _ (by decide +kernel)) ggX9_handle_X9_send
set_option maxRecDepth 20000 in
theorem ggX9_handle_X9_set : GoodIn wsX9_handle wsX9_set := goodIn_r _ [28, 1, 11, 12, 5, 13, 49, 50, 51, 52, 53, 54, 55, 56, 57, 58, 59, 60, 61, 62, 63, 64, 65, 66] (by decide +kernel) (by decide +kernel)
set_option maxRecDepth 20000 in
theorem gX9_handle_X9_set : GoodIn wsX9_handle (wsV RX9 217 RX9 yX9_set wsX9_set) := goodIn_app (goodIn_of _ (by decide +kernel)) ggX9_handle_X9_set
set_option maxRecDepth 20000 in
theorem ggX9_handle_X9_plan : GoodIn wsX9_handle wsX9_plan := goodIn_r _ [32, 7, 8, 9, 5, 10, 1, 11, 12, 13, 25, 26, 27, 28, 49, 50, 51, 52, 53, 54, 55, 56, 57, 58, 59, 60, 61, 62, 63, 64, 65, 66] (by decide +kernel) (by decide +kernel)
set_option maxRecDepth 20000 in
theorem gX9_handle_X9_plan : GoodIn wsX9_handle (wsV RX9 221 RX9 yX9_plan wsX9_plan) := goodIn_app (goodIn_of _ (by decide +kernel)) ggX9_handle_X9_plan
set_option maxRecDepth 20000 in
theorem ggX9_handle_X9_isOpen : GoodIn wsX9_handle wsX9_isOpen := goodIn_r _ [36, 1, 49, 50, 51, 52, 53, 54, 55, 56, 57, 58, 59, 60, 61, 62, 63, 64, 65, 66] (by decide +kernel) (by decide +kernel)
