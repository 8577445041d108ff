set_option maxRecDepth 20000 in
theorem ggL_law_X9_addPrize_t5 : GoodIn wsL_law (wsX10) := goodIn_r _ [1106, 1107, 1108, 1109, 1110, 1111] (by decide +kernel) (by decide +kernel)
set_option maxRecDepth 20000 in
theorem ggL_law_X9_addPrize_t6 : GoodIn wsL_law (wsX50) := goodIn_r _ [1082, 1083, 1084, 1085, 1086, 1087, 1088] (by decide +kernel) (by decide +kernel)
set_option maxRecDepth 20000 in
theorem ggL_law_X9_addPrize_t7 : GoodIn wsL_law (wsX70) := goodIn_r _ [1101, 1102, 1103] (by decide +kernel) (by decide +kernel)
theorem ggL_law_X9_addPrize : GoodIn wsL_law wsX9_addPrize := (goodIn_ca (goodIn_ca (goodIn_ca (goodIn_ca (goodIn_ca (goodIn_ca (goodIn_ca (goodIn_ca (goodIn_ca ggL_law_X9_addPrize_p0 (goodIn_app ggL_law_X9_addPrize_p1 (goodIn_app ggL_law_X9_addPrize_p2 (goodIn_app ggL_law_X9_addPrize_p3 ggL_law_X9_addPrize_p4)))) ggL_law_X9_addPrize_t0) ggL_law_X9_addPrize_t1) ggL_law_X9_addPrize_t2) ggL_law_X9_addPrize_t3) ggL_law_X9_addPrize_t4) ggL_law_X9_addPrize_t5) ggL_law_X9_addPrize_t6) ggL_law_X9_addPrize_t7)
set_option maxRecDepth 20000 in
theorem gL_law_X9_addPrize : GoodIn wsL_law (wsV RL 53 RX9 yX9_addPrize wsX9_addPrize) := goodIn_app (goodIn_of _ (by decide +kernel)) ggL_law_X9_addPrize
set_option maxRecDepth 20000 in
theorem ggL_law_X10_addPrize : GoodIn wsL_law wsX10_addPrize := goodIn_r _ [490, 196, 197, 198, 5, 199, 99, 98, 491, 492, 493, 494, 495, 204, 307, 208, 209, 210, 211, 212, 213, 214, 215, 216, 217, 218, 219, 101, 1057, 1058, 1059, 1060, 1061, 1062, 1063, 1064, 1065, 1066, 1067, 1068, 1069, 1070, 1071] (by decide +kernel) (by decide +kernel)
set_option maxRecDepth 20000 in
theorem gL_law_X10_addPrize : GoodIn wsL_law (wsV RL 57 RX10 yX10_addPrize wsX10_addPrize) := goodIn_app (goodIn_of _ (by decide +kernel)) ggL_law_X10_addPrize
set_option maxRecDepth 20000 in
theorem ggL_law_X9_removePrize_p0 : GoodIn wsL_law (.code yX9_removePrize cX9_removePrize 2 (some .int) :: wsX9_removePrize_r1) := goodIn_r _ [499, 15, 109, 110, 111, 14, 112, 33, 32, 113, 114, 115, 31, 116, 41, 44, 42, 117, 118, 119, 40, 120, 50, 56, 58] (by decide +kernel) (by decide +kernel)
set_option maxRecDepth 20000 in
theorem ggL_law_X9_removePrize_p1 : GoodIn wsL_law (wsX9_removePrize_r2) := goodIn_r _ [54, 121, 122, 123, 59, 124, 125, 126, 127, 61, 128, 72, 73, 129, 130, 131, 63, 132, 133, 134, 135, 136, 137, 138] (by decide +kernel) (by decide +kernel)
set_option maxRecDepth 20000 in
theorem ggL_law_X9_removePrize_p2 : GoodIn wsL_law (wsX9_removePrize_r3) := goodIn_r _ [139, 140, 141, 22, 142, 143, 144, 145, 146, 147, 148, 149, 150, 151, 152, 53, 153, 67, 68, 154, 155, 156, 157, 2] (by decide +kernel) (by decide +kernel)
set_option maxRecDepth 20000 in
theorem ggL_law_X9_removePrize_p3 : GoodIn wsL_law (wsX9_removePrize_r4) := goodIn_r _ [158, 159, 160, 500, 501, 502, 503, 165, 504, 505, 506, 507, 508, 172, 173, 483, 484, 485, 486, 174, 175, 176, 177, 178] (by decide +kernel) (by decide +kernel)
set_option maxRecDepth 20000 in
theorem ggL_law_X9_removePrize_p4 : GoodIn wsL_law (wsX9_removePrize_r5) := goodIn_r _ [179, 180, 181, 182, 183, 184, 185, 186, 187, 29, 188, 189, 190, 191] (by decide +kernel) (by decide +kernel)
set_option maxRecDepth 20000 in
theorem ggL_law_X9_removePrize_t0 : GoodIn wsL_law (wsX90) := goodIn_r _ [1054, 1055, 1056] (by decide +kernel) (by decide +kernel)
set_option maxRecDepth 20000 in
theorem ggL_law_X9_removePrize_t1 : GoodIn wsL_law (wsX30) := goodIn_r _ [1072, 1073, 1074, 1075] (by decide +kernel) (by decide +kernel)
set_option maxRecDepth 20000 in
theorem ggL_law_X9_removePrize_t2 : GoodIn wsL_law (wsX80) := goodIn_r _ [1089, 1090, 1091] (by decide +kernel) (by decide +kernel)
set_option maxRecDepth 20000 in
theorem ggL_law_X9_removePrize_t3 : GoodIn wsL_law (wsX00) := goodIn_r _ [1092, 1093, 1094, 1095, 1096, 1097, 1098, 1099, 1100] (by decide +kernel) (by decide +kernel)
set_option maxRecDepth 20000 in
theorem ggL_law_X9_removePrize_t4 : GoodIn wsL_law (wsX40) := goodIn_r _ [1104, 1105] (by decide +kernel) (by decide +kernel)
set_option maxRecDepth 20000 in
theorem ggL_law_X9_removePrize_t5 : GoodIn wsL_law (wsX10) := goodIn_r _ [1106, 1107, 1108, 1109, 1110, 1111] (by decide +kernel) (by decide +kernel)
set_option maxRecDepth 20000 in
theorem ggL_law_X9_removePrize_t6 : GoodIn wsL_law (wsX50) := goodIn_r _ [1082, 1083, 1084, 1085, 1086, 1087, 1088] (by decide +kernel) (by decide +kernel)
set_option maxRecDepth 20000 in
theorem ggL_law_X9_removePrize_t7 : GoodIn wsL_law (wsX70) := goodIn_r _ [1101, 1102, 1103] (by decide +kernel) (by decide +kernel)
theorem ggL_law_X9_removePrize : GoodIn wsL_law wsX9_removePrize := (goodIn_ca (goodIn_ca (goodIn_ca (goodIn_ca (goodIn_ca (goodIn_ca (goodIn_ca (goodIn_ca (goodIn_ca ggL_law_X9_removePrize_p0 (goodIn_app ggL_law_X9_removePrize_p1 (goodIn_app ggL_law_X9_removePrize_p2 (goodIn_app ggL_law_X9_removePrize_p3 ggL_law_X9_removePrize_p4)))) ggL_law_X9_removePrize_t0) ggL_law_X9_removePrize_t1) ggL_law_X9_removePrize_t2) ggL_law_X9_removePrize_t3) ggL_law_X9_removePrize_t4) ggL_law_X9_removePrize_t5) ggL_law_X9_removePrize_t6) ggL_law_X9_removePrize_t7)
set_option maxRecDepth 20000 in
theorem gL_law_X9_removePrize : GoodIn wsL_law (wsV RL 58 RX9 yX9_removePrize wsX9_removePrize) := goodIn_app (goodIn_of _ (by decide +kernel)) ggL_law_X9_removePrize
set_option maxRecDepth 20000 in
theorem ggL_law_X10_removePrize : GoodIn wsL_law wsX10_removePrize := goodIn_r _ [512, 204, 98, 513, 514, 515, 5, 516, 208, 209, 210, 196, 197, 198, 199, 99, 517, 518, 519, 520, 211, 212, 213, 214, 215, 216, 217, 218, 219, 101, 1057, 1058, 1059, 1060, 1061, 1062, 1063, 1064, 1065, 1066, 1067, 1068, 1069, 1070, 1071] (by decide +kernel) (by decide +kernel)
set_option maxRecDepth 20000 in
theorem gL_law_X10_removePrize : GoodIn wsL_law (wsV RL 61 RX10 yX10_removePrize wsX10_removePrize) := goodIn_app (goodIn_of _ (by decide +kernel)) ggL_law_X10_removePrize
set_option maxRecDepth 20000 in
theorem ggL_law_X9_setPrice_p0 : GoodIn wsL_law (.code yX9_setPrice cX9_setPrice 3 (some .int) :: wsX9_setPrice_r1) := goodIn_r _ [524, 15, 109, 110, 111, 14, 112, 33, 32, 113, 114, 115, 31, 116, 41, 44, 42, 117, 118, 119, 40, 120, 50, 56, 58] (by decide +kernel) (by decide +kernel)
set_option maxRecDepth 20000 in
theorem ggL_law_X9_setPrice_p1 : GoodIn wsL_law (wsX9_setPrice_r2) := goodIn_r _ [54, 121, 122, 123, 59, 124, 125, 126, 127, 61, 128, 72, 73, 129, 130, 131, 63, 132, 133, 134, 135, 136, 137, 138] (by decide +kernel) (by decide +kernel)
set_option maxRecDepth 20000 in
theorem ggL_law_X9_setPrice_p2 : GoodIn wsL_law (wsX9_setPrice_r3) := goodIn_r _ [139, 140, 141, 22, 142, 143, 144, 145, 146, 147, 148, 149, 150, 151, 152, 53, 153, 67, 68, 154, 155, 156, 157, 2] (by decide +kernel) (by decide +kernel)
set_option maxRecDepth 20000 in
theorem ggL_law_X9_setPrice_p3 : GoodIn wsL_law (wsX9_setPrice_r4) := goodIn_r _ [158, 159, 160, 525, 526, 527, 528, 165, 529, 505, 506, 507, 508, 172, 173, 174, 175, 176, 177, 178, 179, 180, 181, 182] (by decide +kernel) (by decide +kernel)
set_option maxRecDepth 20000 in
theorem ggL_law_X9_setPrice_p4 : GoodIn wsL_law (wsX9_setPrice_r5) := goodIn_r _ [183, 184, 185, 186, 187, 29, 188, 189, 190, 191] (by decide +kernel) (by decide +kernel)
set_option maxRecDepth 20000 in
theorem ggL_law_X9_setPrice_t0 : GoodIn wsL_law (wsX90) := goodIn_r _ [1054, 1055, 1056] (by decide +kernel) (by decide +kernel)
set_option maxRecDepth 20000 in
theorem ggL_law_X9_setPrice_t1 : GoodIn wsL_law (wsX30) := goodIn_r _ [1072, 1073, 1074, 1075] (by decide +kernel) (by decide +kernel)
set_option maxRecDepth 20000 in
theorem ggL_law_X9_setPrice_t2 : GoodIn wsL_law (wsX80) := goodIn_r _ [1089, 1090, 1091] (by decide +kernel) (by decide +kernel)
set_option maxRecDepth 20000 in
theorem ggL_law_X9_setPrice_t3 : GoodIn wsL_law (wsX00) := goodIn_r _ [1092, 1093, 1094, 1095, 1096, 1097, 1098, 1099, 1100] (by decide +kernel) (by decide +kernel)
set_option maxRecDepth 20000 in
theorem ggL_law_X9_setPrice_t4 : GoodIn wsL_law (wsX40) := goodIn_r _ [1104, 1105] (by decide +kernel) (by decide +kernel)
set_option maxRecDepth 20000 in
theorem ggL_law_X9_setPrice_t5 : GoodIn wsL_law (wsX10) := goodIn_r _ [1106, 1107, 1108, 1109, 1110, 1111] (by decide +kernel) (by decide +kernel)
set_option maxRecDepth 20000 in
theorem ggL_law_X9_setPrice_t6 : GoodIn wsL_law (wsX50) := goodIn_r _ [1082, 1083, 1084, 1085, 1086, 1087, 1088] (by decide +kernel) (by decide +kernel)
set_option maxRecDepth 20000 in
theorem ggL_law_X9_setPrice_t7 : GoodIn wsL_law (wsX70) := goodIn_r _ [1101, 1102, 1103] (by decide +kernel) (by decide +kernel)
theorem ggL_law_X9_setPrice : GoodIn wsL_law wsX9_setPrice := (goodIn_ca (goodIn_ca (goodIn_ca (goodIn_ca (goodIn_ca (goodIn_ca (goodIn_ca (goodIn_ca (goodIn_ca ggL_law_X9_setPrice_p0 (goodIn_app ggL_law_X9_setPrice_p1 (goodIn_app ggL_law_X9_setPrice_p2 (goodIn_app ggL_law_X9_setPrice_p3 ggL_law_X9_setPrice_p4)))) ggL_law_X9_setPrice_t0) ggL_law_X9_setPrice_t1) ggL_law_X9_setPrice_t2) ggL_law_X9_setPrice_t3) ggL_law_X9_setPrice_t4) ggL_law_X9_setPrice_t5) ggL_law_X9_setPrice_t6) ggL_law_X9_setPrice_t7)
set_option maxRecDepth 20000 in
theorem gL_law_X9_setPrice : GoodIn wsL_law (wsV RL 62 RX9 yX9_setPrice wsX9_setPrice) := goodIn_app (goodIn_of _ (by decide +kernel)) ggL_law_X9_setPrice
set_option maxRecDepth 20000 in
theorem ggL_law_X10_setPrice : GoodIn wsL_law wsX10_setPrice := goodIn_r _ [533, 204, 513, 514, 515, 5, 516, 98, 208, 209, 210, 196, 197, 198, 199, 99, 258, 259, 260, 261, 211, 212, 213, 214, 215, 216, 217, 218, 219, 101, 1057, 1058, 1059, 1060, 1061, 1062, 1063, 1064, 1065, 1066, 1067, 1068, 1069, 1070, 1071] (by decide +kernel) (by decide +kernel)
