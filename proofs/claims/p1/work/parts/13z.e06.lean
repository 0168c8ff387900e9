set_option maxRecDepth 20000 in
theorem ggL_law_X9_player : GoodIn wsL_law wsX9_player := goodIn_r _ [675, 168, 676, 677, 678, 5, 679, 139, 418, 419, 420, 421, 422, 423, 424, 680, 681, 682, 683, 603, 604, 605, 606, 148, 149, 150, 684, 685, 686, 687, 688, 689, 690, 691, 1072, 1073, 1074, 1075, 1076, 1077, 1078, 1079, 1080, 1081, 1082, 1083, 1084, 1085, 1086, 1087, 1088, 1089] (by decide +kernel) (by decide +kernel)
set_option maxRecDepth 20000 in
theorem gL_law_X9_player : GoodIn wsL_law (wsV RL 90 RX9 yX9_player wsX9_player) := goodIn_app (goodIn_of _ (by decide +kernel)) ggL_law_X9_player
set_option maxRecDepth 20000 in
theorem ggL_law_L_link : GoodIn wsL_law wsL_link := goodIn_ca (goodIn_r _ [694, 641, 695, 696, 697, 2, 698, 20, 646, 647, 648, 649, 650, 651, 699, 556, 557, 19, 558, 91, 559, 315, 54, 316, 700, 561, 562, 563, 90, 564, 311, 312, 313, 78, 314, 1065, 1066, 1067, 1068, 1069, 1070, 1071, 1104, 1105, 1106, 1107, 1108, 1109, 1110, 1111, 1112, 1113, 1114, 1115, 1116, 1117, 1118, 1119, 1148, 1149, 1150, 1151, 1152, 1153, 1154, 1155] (by decide +kernel) (by decide +kernel)) (goodIn_sub (fun _ h => List.mem_append_left _ (List.mem_append_left _ (List.mem_append_right _ h))) (by decide +kernel))
set_option maxRecDepth 20000 in
theorem gL_law_L_link : GoodIn wsL_law (va_wsS RL 91 yL_link wsL_link) := goodIn_app (goodIn_of _ (by decide +kernel)) ggL_law_L_link
set_option maxRecDepth 20000 in
theorem ggL_law_X9_link : GoodIn wsL_law wsX9_link := goodIn_r _ [704, 168, 139, 676, 677, 678, 5, 679, 418, 419, 420, 421, 422, 423, 424, 479, 480, 481, 1072, 1073, 1074, 1075, 1076, 1077, 1078, 1079, 1080, 1081, 1082, 1083, 1084, 1085, 1086, 1087, 1088, 1089] (by decide +kernel) (by decide +kernel)
set_option maxRecDepth 20000 in
theorem gL_law_X9_link : GoodIn wsL_law (wsV RL 93 RX9 yX9_link wsX9_link) := goodIn_app (goodIn_of _ (by decide +kernel)) ggL_law_X9_link
set_option maxRecDepth 20000 in
theorem ggL_law_L_message : GoodIn wsL_law wsL_message := goodIn_ca (goodIn_ca (goodIn_r _ [707, 708, 174, 709, 710, 711, 2, 712, 713, 714, 20, 529, 530, 531, 532, 179, 180, 715, 716, 717, 19, 718, 40, 92, 48, 719, 720, 721, 39, 722, 60, 59, 723, 724, 725, 47, 726, 727, 728, 729, 730, 731, 732, 733, 734, 735, 1065, 1066, 1067, 1068, 1069, 1070, 1071, 1104, 1105, 1106, 1107, 1108, 1109, 1110, 1111, 1112, 1113, 1114, 1115, 1116, 1117, 1118, 1119, 1120, 1121, 1122, 1131, 1132, 1133, 1134, 1135, 1136, 1137] (by decide +kernel) (by decide +kernel)) (goodIn_sub (fun _ h => List.mem_append_left _ (List.mem_append_right _ h)) (by decide +kernel))) (goodIn_sub (fun _ h => List.mem_append_left _ (List.mem_append_left _ (List.mem_append_left _ (List.mem_append_right _ h)))) (by decide +kernel))
set_option maxRecDepth 20000 in
theorem gL_law_L_message : GoodIn wsL_law (va_wsS RL 94 yL_message wsL_message) := goodIn_app (goodIn_of _ (by decide +kernel)) ggL_law_L_message
set_option maxRecDepth 20000 in
theorem ggL_law_X9_message : GoodIn wsL_law wsX9_message := goodIn_r _ [739, 168, 139, 418, 419, 5, 420, 421, 422, 423, 424, 740, 741, 742, 743, 744, 745, 746, 747, 1072, 1073, 1074, 1075, 1076, 1077, 1078, 1079, 1080, 1081, 1082, 1083, 1084, 1085, 1086, 1087, 1088, 1089] (by decide +kernel) (by decide +kernel)
set_option maxRecDepth 20000 in
theorem gL_law_X9_message : GoodIn wsL_law (wsV RL 96 RX9 yX9_message wsX9_message) := goodIn_app (goodIn_of _ (by decide +kernel)) ggL_law_X9_message
set_option maxRecDepth 20000 in
theorem ggL_law_L_proposal : GoodIn wsL_law wsL_proposal := goodIn_ca (goodIn_ca (goodIn_r _ [750, 708, 174, 751, 752, 753, 2, 754, 713, 714, 20, 529, 530, 531, 532, 179, 180, 755, 756, 757, 43, 758, 400, 401, 402, 403, 404, 130, 1065, 1066, 1067, 1068, 1069, 1070, 1071, 1104, 1105, 1106, 1107, 1108, 1109, 1110, 1111, 1112, 1113, 1114, 1115, 1116, 1117, 1118, 1119, 1123, 1124, 1125, 1126, 1127, 1128, 1129, 1130] (by decide +kernel) (by decide +kernel)) (goodIn_sub (fun _ h => List.mem_append_left _ (List.mem_append_right _ h)) (by decide +kernel))) (goodIn_sub (fun _ h => List.mem_append_left _ (List.mem_append_left _ (List.mem_append_left _ (List.mem_append_right _ h)))) (by decide +kernel))
set_option maxRecDepth 20000 in
theorem gL_law_L_proposal : GoodIn wsL_law (va_wsS RL 97 yL_proposal wsL_proposal) := goodIn_app (goodIn_of _ (by decide +kernel)) ggL_law_L_proposal
set_option maxRecDepth 20000 in
theorem ggL_law_X9_proposal : GoodIn wsL_law wsX9_proposal := goodIn_r _ [762, 168, 139, 421, 422, 423, 5, 424, 418, 419, 420, 1072, 1073, 1074, 1075, 1076, 1077, 1078, 1079, 1080, 1081, 1082, 1083, 1084, 1085, 1086, 1087, 1088, 1089] (by decide +kernel) (by decide +kernel)
set_option maxRecDepth 20000 in
theorem gL_law_X9_proposal : GoodIn wsL_law (wsV RL 99 RX9 yX9_proposal wsX9_proposal) := goodIn_app (goodIn_of _ (by decide +kernel)) ggL_law_X9_proposal
set_option maxRecDepth 20000 in
theorem ggL_law_X8_spread : GoodIn wsL_law wsX8_spread := goodIn_r _ [766, 20, 767, 768, 769, 43, 770, 131, 405, 1065, 1066, 1067, 1068, 1069, 1070, 1071, 1104, 1105, 1106, 1107, 1108, 1109, 1110, 1111, 1112, 1113, 1114, 1115, 1116, 1117, 1118, 1119, 1123, 1124, 1125, 1126, 1127, 1128, 1129, 1130] (by decide +kernel) (by decide +kernel)
set_option maxRecDepth 20000 in
theorem gL_law_X8_spread : GoodIn wsL_law (wsV RL 100 RX8 yX8_spread wsX8_spread) := goodIn_app (goodIn_of _ (by decide +kernel)) ggL_law_X8_spread
