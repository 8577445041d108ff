set_option maxRecDepth 20000 in
theorem gL_law_X10_setPrice : GoodIn wsL_law (wsV RL 65 RX10 yX10_setPrice wsX10_setPrice) := goodIn_app (goodIn_of _ (by decide +kernel)) ggL_law_X10_setPrice
set_option maxRecDepth 20000 in
theorem ggL_law_X9_buy_p0 : GoodIn wsL_law (.code yX9_buy cX9_buy 4 (some .int) :: wsX9_buy_r1) := goodIn_r _ [537, 15, 109, 110, 111, 14, 112, 33, 32, 113, 114, 115, 31, 116, 41, 44, 42, 117, 118, 119, 40, 120, 50, 56, 58] (by decide +kernel) (by decide +kernel)
set_option maxRecDepth 20000 in
theorem ggL_law_X9_buy_p1 : GoodIn wsL_law (wsX9_buy_r2) := goodIn_r _ [54, 121, 122, 123, 59, 124, 125, 126, 127, 61, 128, 72, 73, 129, 130, 131, 63, 132, 133, 134, 135, 136, 137, 138] (by decide +kernel) (by decide +kernel)
set_option maxRecDepth 20000 in
theorem ggL_law_X9_buy_p2 : GoodIn wsL_law (wsX9_buy_r3) := goodIn_r _ [139, 140, 141, 22, 142, 143, 144, 145, 146, 147, 148, 149, 150, 151, 152, 53, 153, 67, 68, 154, 155, 156, 157, 2] (by decide +kernel) (by decide +kernel)
set_option maxRecDepth 20000 in
theorem ggL_law_X9_buy_p3 : GoodIn wsL_law (wsX9_buy_r4) := goodIn_r _ [158, 159, 160, 538, 539, 540, 541, 165, 316, 529, 445, 504, 294, 317, 318, 319, 320, 172, 173, 505, 506, 507, 508, 542] (by decide +kernel) (by decide +kernel)
set_option maxRecDepth 20000 in
theorem ggL_law_X9_buy_p4 : GoodIn wsL_law (wsX9_buy_r5) := goodIn_r _ [543, 544, 545, 546, 232, 233, 234, 345, 346, 347, 348, 349, 350, 174, 175, 176, 177, 178, 179, 180, 181, 182, 183, 184] (by decide +kernel) (by decide +kernel)
set_option maxRecDepth 20000 in
theorem ggL_law_X9_buy_p5 : GoodIn wsL_law (wsX9_buy_r6) := goodIn_r _ [185, 186, 187, 29, 188, 189, 190, 191] (by decide +kernel) (by decide +kernel)
set_option maxRecDepth 20000 in
theorem ggL_law_X9_buy_t0 : GoodIn wsL_law (wsX90) := goodIn_r _ [1054, 1055, 1056] (by decide +kernel) (by decide +kernel)
set_option maxRecDepth 20000 in
theorem ggL_law_X9_buy_t1 : GoodIn wsL_law (wsX30) := goodIn_r _ [1072, 1073, 1074, 1075] (by decide +kernel) (by decide +kernel)
set_option maxRecDepth 20000 in
theorem ggL_law_X9_buy_t2 : GoodIn wsL_law (wsX80) := goodIn_r _ [1089, 1090, 1091] (by decide +kernel) (by decide +kernel)
set_option maxRecDepth 20000 in
theorem ggL_law_X9_buy_t3 : GoodIn wsL_law (wsX00) := goodIn_r _ [1092, 1093, 1094, 1095, 1096, 1097, 1098, 1099, 1100] (by decide +kernel) (by decide +kernel)
set_option maxRecDepth 20000 in
theorem ggL_law_X9_buy_t4 : GoodIn wsL_law (wsX40) := goodIn_r _ [1104, 1105] (by decide +kernel) (by decide +kernel)
set_option maxRecDepth 20000 in
theorem ggL_law_X9_buy_t5 : GoodIn wsL_law (wsX10) := goodIn_r _ [1106, 1107, 1108, 1109, 1110, 1111] (by decide +kernel) (by decide +kernel)
set_option maxRecDepth 20000 in
theorem ggL_law_X9_buy_t6 : GoodIn wsL_law (wsX50) := goodIn_r _ [1082, 1083, 1084, 1085, 1086, 1087, 1088] (by decide +kernel) (by decide +kernel)
set_option maxRecDepth 20000 in
theorem ggL_law_X9_buy_t7 : GoodIn wsL_law (wsX70) := goodIn_r _ [1101, 1102, 1103] (by decide +kernel) (by decide +kernel)
theorem ggL_law_X9_buy : GoodIn wsL_law wsX9_buy := (goodIn_ca (goodIn_ca (goodIn_ca (goodIn_ca (goodIn_ca (goodIn_ca (goodIn_ca (goodIn_ca (goodIn_ca ggL_law_X9_buy_p0 (goodIn_app ggL_law_X9_buy_p1 (goodIn_app ggL_law_X9_buy_p2 (goodIn_app ggL_law_X9_buy_p3 (goodIn_app ggL_law_X9_buy_p4 ggL_law_X9_buy_p5))))) ggL_law_X9_buy_t0) ggL_law_X9_buy_t1) ggL_law_X9_buy_t2) ggL_law_X9_buy_t3) ggL_law_X9_buy_t4) ggL_law_X9_buy_t5) ggL_law_X9_buy_t6) ggL_law_X9_buy_t7)
set_option maxRecDepth 20000 in
theorem gL_law_X9_buy : GoodIn wsL_law (wsV RL 66 RX9 yX9_buy wsX9_buy) := goodIn_app (goodIn_of _ (by decide +kernel)) ggL_law_X9_buy
set_option maxRecDepth 20000 in
theorem ggL_law_X10_buy : GoodIn wsL_law wsX10_buy := goodIn_r _ [550, 196, 197, 198, 5, 199, 99, 98, 551, 552, 553, 554, 204, 470, 307, 325, 326, 327, 328, 208, 209, 210, 513, 514, 515, 516, 329, 330, 331, 332, 517, 518, 519, 520, 555, 556, 557, 558, 211, 212, 213, 214, 215, 216, 217, 218, 219, 101, 1057, 1058, 1059, 1060, 1061, 1062, 1063, 1064, 1065, 1066, 1067, 1068, 1069, 1070, 1071] (by decide +kernel) (by decide +kernel)
set_option maxRecDepth 20000 in
theorem gL_law_X10_buy : GoodIn wsL_law (wsV RL 69 RX10 yX10_buy wsX10_buy) := goodIn_app (goodIn_of _ (by decide +kernel)) ggL_law_X10_buy
set_option maxRecDepth 20000 in
theorem ggL_law_X9_take_p0 : GoodIn wsL_law (.code yX9_take cX9_take 2 (some .int) :: wsX9_take_r1) := goodIn_r _ [562, 15, 159, 109, 110, 111, 14, 112, 33, 32, 113, 114, 115, 31, 116, 41, 44, 42, 117, 118, 119, 40, 120, 50, 56] (by decide +kernel) (by decide +kernel)
set_option maxRecDepth 20000 in
theorem ggL_law_X9_take_p1 : GoodIn wsL_law (wsX9_take_r2) := goodIn_r _ [58, 54, 121, 122, 123, 59, 124, 125, 126, 127, 61, 128, 72, 73, 129, 130, 131, 63, 132, 133, 134, 135, 136, 137] (by decide +kernel) (by decide +kernel)
set_option maxRecDepth 20000 in
theorem ggL_law_X9_take_p2 : GoodIn wsL_law (wsX9_take_r3) := goodIn_r _ [138, 139, 140, 141, 22, 142, 143, 144, 145, 146, 147, 148, 149, 150, 151, 152, 53, 153, 67, 68, 154, 563, 564, 565] (by decide +kernel) (by decide +kernel)
set_option maxRecDepth 20000 in
theorem ggL_law_X9_take_p3 : GoodIn wsL_law (wsX9_take_r4) := goodIn_r _ [566, 567, 172, 2, 173, 568, 569, 570, 571, 316, 174, 175, 176, 177, 178, 179, 180, 181, 182, 183, 184, 185, 186, 187] (by decide +kernel) (by decide +kernel)
set_option maxRecDepth 20000 in
theorem ggL_law_X9_take_p4 : GoodIn wsL_law (wsX9_take_r5) := goodIn_r _ [29, 188, 189, 190, 191] (by decide +kernel) (by decide +kernel)
set_option maxRecDepth 20000 in
theorem ggL_law_X9_take_t0 : GoodIn wsL_law (wsX90) := goodIn_r _ [1054, 1055, 1056] (by decide +kernel) (by decide +kernel)
set_option maxRecDepth 20000 in
theorem ggL_law_X9_take_t1 : GoodIn wsL_law (wsX30) := goodIn_r _ [1072, 1073, 1074, 1075] (by decide +kernel) (by decide +kernel)
set_option maxRecDepth 20000 in
theorem ggL_law_X9_take_t2 : GoodIn wsL_law (wsX80) := goodIn_r _ [1089, 1090, 1091] (by decide +kernel) (by decide +kernel)
set_option maxRecDepth 20000 in
theorem ggL_law_X9_take_t3 : GoodIn wsL_law (wsX00) := goodIn_r _ [1092, 1093, 1094, 1095, 1096, 1097, 1098, 1099, 1100] (by decide +kernel) (by decide +kernel)
set_option maxRecDepth 20000 in
theorem ggL_law_X9_take_t4 : GoodIn wsL_law (wsX40) := goodIn_r _ [1104, 1105] (by decide +kernel) (by decide +kernel)
set_option maxRecDepth 20000 in
theorem ggL_law_X9_take_t5 : GoodIn wsL_law (wsX10) := goodIn_r _ [1106, 1107, 1108, 1109, 1110, 1111] (by decide +kernel) (by decide +kernel)
set_option maxRecDepth 20000 in
theorem ggL_law_X9_take_t6 : GoodIn wsL_law (wsX50) := goodIn_r _ [1082, 1083, 1084, 1085, 1086, 1087, 1088] (by decide +kernel) (by decide +kernel)
set_option maxRecDepth 20000 in
theorem ggL_law_X9_take_t7 : GoodIn wsL_law (wsX70) := goodIn_r _ [1101, 1102, 1103] (by decide +kernel) (by decide +kernel)
theorem ggL_law_X9_take : GoodIn wsL_law wsX9_take := (goodIn_ca (goodIn_ca (goodIn_ca (goodIn_ca (goodIn_ca (goodIn_ca (goodIn_ca (goodIn_ca (goodIn_ca ggL_law_X9_take_p0 (goodIn_app ggL_law_X9_take_p1 (goodIn_app ggL_law_X9_take_p2 (goodIn_app ggL_law_X9_take_p3 ggL_law_X9_take_p4)))) ggL_law_X9_take_t0) ggL_law_X9_take_t1) ggL_law_X9_take_t2) ggL_law_X9_take_t3) ggL_law_X9_take_t4) ggL_law_X9_take_t5) ggL_law_X9_take_t6) ggL_law_X9_take_t7)
set_option maxRecDepth 20000 in
theorem gL_law_X9_take : GoodIn wsL_law (wsV RL 70 RX9 yX9_take wsX9_take) := goodIn_app (goodIn_of _ (by decide +kernel)) ggL_law_X9_take
set_option maxRecDepth 20000 in
theorem ggL_law_X10_take : GoodIn wsL_law wsX10_take := goodIn_r _ [575, 204, 98, 208, 209, 5, 210, 196, 197, 198, 199, 99, 576, 577, 578, 579, 329, 330, 331, 332, 211, 212, 213, 214, 215, 216, 217, 218, 219, 101, 1057, 1058, 1059, 1060, 1061, 1062, 1063, 1064, 1065, 1066, 1067, 1068, 1069, 1070, 1071] (by decide +kernel) (by decide +kernel)
set_option maxRecDepth 20000 in
theorem gL_law_X10_take : GoodIn wsL_law (wsV RL 73 RX10 yX10_take wsX10_take) := goodIn_app (goodIn_of _ (by decide +kernel)) ggL_law_X10_take
set_option maxRecDepth 20000 in
theorem ggL_law_X9_restore_p0 : GoodIn wsL_law (.code yX9_restore cX9_restore 2 (some .int) :: wsX9_restore_r1) := goodIn_r _ [583, 15, 159, 109, 110, 111, 14, 112, 33, 32, 113, 114, 115, 31, 116, 41, 44, 42, 117, 118, 119, 40, 120, 50, 56] (by decide +kernel) (by decide +kernel)
set_option maxRecDepth 20000 in
theorem ggL_law_X9_restore_p1 : GoodIn wsL_law (wsX9_restore_r2) := goodIn_r _ [58, 54, 121, 122, 123, 59, 124, 125, 126, 127, 61, 128, 72, 73, 129, 130, 131, 63, 132, 133, 134, 135, 136, 137] (by decide +kernel) (by decide +kernel)
set_option maxRecDepth 20000 in
theorem ggL_law_X9_restore_p2 : GoodIn wsL_law (wsX9_restore_r3) := goodIn_r _ [138, 139, 140, 141, 22, 142, 143, 144, 145, 146, 147, 148, 149, 150, 151, 152, 53, 153, 67, 68, 154, 584, 585, 586] (by decide +kernel) (by decide +kernel)
set_option maxRecDepth 20000 in
theorem ggL_law_X9_restore_p3 : GoodIn wsL_law (wsX9_restore_r4) := goodIn_r _ [587, 567, 588, 172, 2, 173, 568, 569, 570, 571, 316, 174, 175, 176, 177, 178, 179, 180, 181, 182, 183, 184, 185, 186] (by decide +kernel) (by decide +kernel)
