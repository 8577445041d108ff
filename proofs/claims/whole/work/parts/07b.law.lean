set_option maxRecDepth 20000 in
theorem ggL_law_X9_setScale_p4 : GoodIn wsL_law (wsX9_setScale_r5) := goodIn_r _ [178, 179, 180, 181, 182, 183, 184, 185, 186, 187, 29, 188, 189, 190, 191] (by decide +kernel) (by decide +kernel)
set_option maxRecDepth 20000 in
theorem ggL_law_X9_setScale_t0 : GoodIn wsL_law (wsX90) := goodIn_r _ [1054, 1055, 1056] (by decide +kernel) (by decide +kernel)
set_option maxRecDepth 20000 in
theorem ggL_law_X9_setScale_t1 : GoodIn wsL_law (wsX30) := goodIn_r _ [1072, 1073, 1074, 1075] (by decide +kernel) (by decide +kernel)
set_option maxRecDepth 20000 in
theorem ggL_law_X9_setScale_t2 : GoodIn wsL_law (wsX80) := goodIn_r _ [1089, 1090, 1091] (by decide +kernel) (by decide +kernel)
set_option maxRecDepth 20000 in
theorem ggL_law_X9_setScale_t3 : GoodIn wsL_law (wsX00) := goodIn_r _ [1092, 1093, 1094, 1095, 1096, 1097, 1098, 1099, 1100] (by decide +kernel) (by decide +kernel)
set_option maxRecDepth 20000 in
theorem ggL_law_X9_setScale_t4 : GoodIn wsL_law (wsX40) := goodIn_r _ [1104, 1105] (by decide +kernel) (by decide +kernel)
set_option maxRecDepth 20000 in
theorem ggL_law_X9_setScale_t5 : GoodIn wsL_law (wsX10) := goodIn_r _ [1106, 1107, 1108, 1109, 1110, 1111] (by decide +kernel) (by decide +kernel)
set_option maxRecDepth 20000 in
theorem ggL_law_X9_setScale_t6 : GoodIn wsL_law (wsX50) := goodIn_r _ [1082, 1083, 1084, 1085, 1086, 1087, 1088] (by decide +kernel) (by decide +kernel)
set_option maxRecDepth 20000 in
theorem ggL_law_X9_setScale_t7 : GoodIn wsL_law (wsX70) := goodIn_r _ [1101, 1102, 1103] (by decide +kernel) (by decide +kernel)
theorem ggL_law_X9_setScale : GoodIn wsL_law wsX9_setScale := (goodIn_ca (goodIn_ca (goodIn_ca (goodIn_ca (goodIn_ca (goodIn_ca (goodIn_ca (goodIn_ca (goodIn_ca ggL_law_X9_setScale_p0 (goodIn_app ggL_law_X9_setScale_p1 (goodIn_app ggL_law_X9_setScale_p2 (goodIn_app ggL_law_X9_setScale_p3 ggL_law_X9_setScale_p4)))) ggL_law_X9_setScale_t0) ggL_law_X9_setScale_t1) ggL_law_X9_setScale_t2) ggL_law_X9_setScale_t3) ggL_law_X9_setScale_t4) ggL_law_X9_setScale_t5) ggL_law_X9_setScale_t6) ggL_law_X9_setScale_t7)
set_option maxRecDepth 20000 in
theorem gL_law_X9_setScale : GoodIn wsL_law (wsV RL 18 RX9 yX9_setScale wsX9_setScale) := goodIn_app (goodIn_of _ (by decide +kernel)) ggL_law_X9_setScale
set_option maxRecDepth 20000 in
theorem ggL_law_X10_setScale : GoodIn wsL_law wsX10_setScale := goodIn_r _ [241, 196, 197, 198, 5, 199, 99, 98, 242, 243, 244, 245, 204, 208, 209, 210, 211, 212, 213, 214, 215, 216, 217, 218, 219, 101, 1057, 1058, 1059, 1060, 1061, 1062, 1063, 1064, 1065, 1066, 1067, 1068, 1069, 1070, 1071] (by decide +kernel) (by decide +kernel)
set_option maxRecDepth 20000 in
theorem gL_law_X10_setScale : GoodIn wsL_law (wsV RL 22 RX10 yX10_setScale wsX10_setScale) := goodIn_app (goodIn_of _ (by decide +kernel)) ggL_law_X10_setScale
set_option maxRecDepth 20000 in
theorem ggL_law_X9_setBias_p0 : GoodIn wsL_law (.code yX9_setBias cX9_setBias 2 (some .int) :: wsX9_setBias_r1) := goodIn_r _ [249, 15, 109, 110, 111, 14, 112, 33, 32, 113, 114, 115, 31, 116, 41, 44, 42, 117, 118, 119, 40, 120, 50, 56, 58] (by decide +kernel) (by decide +kernel)
set_option maxRecDepth 20000 in
theorem ggL_law_X9_setBias_p1 : GoodIn wsL_law (wsX9_setBias_r2) := goodIn_r _ [54, 121, 122, 123, 59, 124, 125, 126, 127, 61, 128, 72, 73, 129, 130, 131, 63, 132, 133, 134, 135, 136, 137, 138] (by decide +kernel) (by decide +kernel)
set_option maxRecDepth 20000 in
theorem ggL_law_X9_setBias_p2 : GoodIn wsL_law (wsX9_setBias_r3) := goodIn_r _ [139, 140, 141, 22, 142, 143, 144, 145, 146, 147, 148, 149, 150, 151, 152, 53, 153, 67, 68, 154, 155, 156, 157, 2] (by decide +kernel) (by decide +kernel)
set_option maxRecDepth 20000 in
theorem ggL_law_X9_setBias_p3 : GoodIn wsL_law (wsX9_setBias_r4) := goodIn_r _ [158, 159, 160, 250, 251, 252, 253, 229, 165, 230, 172, 173, 174, 175, 176, 177, 178, 179, 180, 181, 182, 183, 184, 185] (by decide +kernel) (by decide +kernel)
set_option maxRecDepth 20000 in
theorem ggL_law_X9_setBias_p4 : GoodIn wsL_law (wsX9_setBias_r5) := goodIn_r _ [186, 187, 29, 188, 189, 190, 191] (by decide +kernel) (by decide +kernel)
set_option maxRecDepth 20000 in
theorem ggL_law_X9_setBias_t0 : GoodIn wsL_law (wsX90) := goodIn_r _ [1054, 1055, 1056] (by decide +kernel) (by decide +kernel)
set_option maxRecDepth 20000 in
theorem ggL_law_X9_setBias_t1 : GoodIn wsL_law (wsX30) := goodIn_r _ [1072, 1073, 1074, 1075] (by decide +kernel) (by decide +kernel)
set_option maxRecDepth 20000 in
theorem ggL_law_X9_setBias_t2 : GoodIn wsL_law (wsX80) := goodIn_r _ [1089, 1090, 1091] (by decide +kernel) (by decide +kernel)
set_option maxRecDepth 20000 in
theorem ggL_law_X9_setBias_t3 : GoodIn wsL_law (wsX00) := goodIn_r _ [1092, 1093, 1094, 1095, 1096, 1097, 1098, 1099, 1100] (by decide +kernel) (by decide +kernel)
set_option maxRecDepth 20000 in
theorem ggL_law_X9_setBias_t4 : GoodIn wsL_law (wsX40) := goodIn_r _ [1104, 1105] (by decide +kernel) (by decide +kernel)
set_option maxRecDepth 20000 in
theorem ggL_law_X9_setBias_t5 : GoodIn wsL_law (wsX10) := goodIn_r _ [1106, 1107, 1108, 1109, 1110, 1111] (by decide +kernel) (by decide +kernel)
set_option maxRecDepth 20000 in
theorem ggL_law_X9_setBias_t6 : GoodIn wsL_law (wsX50) := goodIn_r _ [1082, 1083, 1084, 1085, 1086, 1087, 1088] (by decide +kernel) (by decide +kernel)
set_option maxRecDepth 20000 in
theorem ggL_law_X9_setBias_t7 : GoodIn wsL_law (wsX70) := goodIn_r _ [1101, 1102, 1103] (by decide +kernel) (by decide +kernel)
theorem ggL_law_X9_setBias : GoodIn wsL_law wsX9_setBias := (goodIn_ca (goodIn_ca (goodIn_ca (goodIn_ca (goodIn_ca (goodIn_ca (goodIn_ca (goodIn_ca (goodIn_ca ggL_law_X9_setBias_p0 (goodIn_app ggL_law_X9_setBias_p1 (goodIn_app ggL_law_X9_setBias_p2 (goodIn_app ggL_law_X9_setBias_p3 ggL_law_X9_setBias_p4)))) ggL_law_X9_setBias_t0) ggL_law_X9_setBias_t1) ggL_law_X9_setBias_t2) ggL_law_X9_setBias_t3) ggL_law_X9_setBias_t4) ggL_law_X9_setBias_t5) ggL_law_X9_setBias_t6) ggL_law_X9_setBias_t7)
set_option maxRecDepth 20000 in
theorem gL_law_X9_setBias : GoodIn wsL_law (wsV RL 23 RX9 yX9_setBias wsX9_setBias) := goodIn_app (goodIn_of _ (by decide +kernel)) ggL_law_X9_setBias
set_option maxRecDepth 20000 in
theorem ggL_law_X10_setBias : GoodIn wsL_law wsX10_setBias := goodIn_r _ [257, 98, 196, 197, 198, 5, 199, 99, 258, 259, 260, 261, 204, 208, 209, 210, 211, 212, 213, 214, 215, 216, 217, 218, 219, 101, 1057, 1058, 1059, 1060, 1061, 1062, 1063, 1064, 1065, 1066, 1067, 1068, 1069, 1070, 1071] (by decide +kernel) (by decide +kernel)
set_option maxRecDepth 20000 in
theorem gL_law_X10_setBias : GoodIn wsL_law (wsV RL 27 RX10 yX10_setBias wsX10_setBias) := goodIn_app (goodIn_of _ (by decide +kernel)) ggL_law_X10_setBias
set_option maxRecDepth 20000 in
theorem ggL_law_X9_setRule_p0 : GoodIn wsL_law (.code yX9_setRule cX9_setRule 2 (some .int) :: wsX9_setRule_r1) := goodIn_r _ [265, 15, 109, 110, 111, 14, 112, 33, 32, 113, 114, 115, 31, 116, 41, 44, 42, 117, 118, 119, 40, 120, 50, 56, 58] (by decide +kernel) (by decide +kernel)
set_option maxRecDepth 20000 in
theorem ggL_law_X9_setRule_p1 : GoodIn wsL_law (wsX9_setRule_r2) := goodIn_r _ [54, 121, 122, 123, 59, 124, 125, 126, 127, 61, 128, 72, 73, 129, 130, 131, 63, 132, 133, 134, 135, 136, 137, 138] (by decide +kernel) (by decide +kernel)
set_option maxRecDepth 20000 in
theorem ggL_law_X9_setRule_p2 : GoodIn wsL_law (wsX9_setRule_r3) := goodIn_r _ [139, 140, 141, 22, 142, 143, 144, 145, 146, 147, 148, 149, 150, 151, 152, 53, 153, 67, 68, 154, 155, 156, 157, 2] (by decide +kernel) (by decide +kernel)
set_option maxRecDepth 20000 in
theorem ggL_law_X9_setRule_p3 : GoodIn wsL_law (wsX9_setRule_r4) := goodIn_r _ [158, 159, 160, 266, 267, 268, 269, 165, 172, 173, 174, 175, 176, 177, 178, 179, 180, 181, 182, 183, 184, 185, 186, 187] (by decide +kernel) (by decide +kernel)
set_option maxRecDepth 20000 in
theorem ggL_law_X9_setRule_p4 : GoodIn wsL_law (wsX9_setRule_r5) := goodIn_r _ [29, 188, 189, 190, 191] (by decide +kernel) (by decide +kernel)
set_option maxRecDepth 20000 in
theorem ggL_law_X9_setRule_t0 : GoodIn wsL_law (wsX90) := goodIn_r _ [1054, 1055, 1056] (by decide +kernel) (by decide +kernel)
set_option maxRecDepth 20000 in
theorem ggL_law_X9_setRule_t1 : GoodIn wsL_law (wsX30) := goodIn_r _ [1072, 1073, 1074, 1075] (by decide +kernel) (by decide +kernel)
set_option maxRecDepth 20000 in
theorem ggL_law_X9_setRule_t2 : GoodIn wsL_law (wsX80) := goodIn_r _ [1089, 1090, 1091] (by decide +kernel) (by decide +kernel)
set_option maxRecDepth 20000 in
theorem ggL_law_X9_setRule_t3 : GoodIn wsL_law (wsX00) := goodIn_r _ [1092, 1093, 1094, 1095, 1096, 1097, 1098, 1099, 1100] (by decide +kernel) (by decide +kernel)
