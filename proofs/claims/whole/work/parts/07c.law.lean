set_option maxRecDepth 20000 in
theorem ggL_law_X9_setRule_t4 : GoodIn wsL_law (wsX40) := goodIn_r _ [1104, 1105] (by decide +kernel) (by decide +kernel)
set_option maxRecDepth 20000 in
theorem ggL_law_X9_setRule_t5 : GoodIn wsL_law (wsX10) := goodIn_r _ [1106, 1107, 1108, 1109, 1110, 1111] (by decide +kernel) (by decide +kernel)
set_option maxRecDepth 20000 in
theorem ggL_law_X9_setRule_t6 : GoodIn wsL_law (wsX50) := goodIn_r _ [1082, 1083, 1084, 1085, 1086, 1087, 1088] (by decide +kernel) (by decide +kernel)
set_option maxRecDepth 20000 in
theorem ggL_law_X9_setRule_t7 : GoodIn wsL_law (wsX70) := goodIn_r _ [1101, 1102, 1103] (by decide +kernel) (by decide +kernel)
theorem ggL_law_X9_setRule : GoodIn wsL_law wsX9_setRule := (goodIn_ca (goodIn_ca (goodIn_ca (goodIn_ca (goodIn_ca (goodIn_ca (goodIn_ca (goodIn_ca (goodIn_ca ggL_law_X9_setRule_p0 (goodIn_app ggL_law_X9_setRule_p1 (goodIn_app ggL_law_X9_setRule_p2 (goodIn_app ggL_law_X9_setRule_p3 ggL_law_X9_setRule_p4)))) ggL_law_X9_setRule_t0) ggL_law_X9_setRule_t1) ggL_law_X9_setRule_t2) ggL_law_X9_setRule_t3) ggL_law_X9_setRule_t4) ggL_law_X9_setRule_t5) ggL_law_X9_setRule_t6) ggL_law_X9_setRule_t7)
set_option maxRecDepth 20000 in
theorem gL_law_X9_setRule : GoodIn wsL_law (wsV RL 28 RX9 yX9_setRule wsX9_setRule) := goodIn_app (goodIn_of _ (by decide +kernel)) ggL_law_X9_setRule
set_option maxRecDepth 20000 in
theorem ggL_law_X10_setRule : GoodIn wsL_law wsX10_setRule := goodIn_r _ [273, 196, 197, 198, 5, 199, 99, 98, 258, 259, 260, 261, 204, 208, 209, 210, 211, 212, 213, 214, 215, 216, 217, 218, 219, 101, 1057, 1058, 1059, 1060, 1061, 1062, 1063, 1064, 1065, 1066, 1067, 1068, 1069, 1070, 1071] (by decide +kernel) (by decide +kernel)
set_option maxRecDepth 20000 in
theorem gL_law_X10_setRule : GoodIn wsL_law (wsV RL 31 RX10 yX10_setRule wsX10_setRule) := goodIn_app (goodIn_of _ (by decide +kernel)) ggL_law_X10_setRule
set_option maxRecDepth 20000 in
theorem ggL_law_X9_setFee_p0 : GoodIn wsL_law (.code yX9_setFee cX9_setFee 2 (some .int) :: wsX9_setFee_r1) := goodIn_r _ [277, 15, 109, 110, 111, 14, 112, 33, 32, 113, 114, 115, 31, 116, 41, 44, 42, 117, 118, 119, 40, 120, 50, 56, 58] (by decide +kernel) (by decide +kernel)
set_option maxRecDepth 20000 in
theorem ggL_law_X9_setFee_p1 : GoodIn wsL_law (wsX9_setFee_r2) := goodIn_r _ [54, 121, 122, 123, 59, 124, 125, 126, 127, 61, 128, 72, 73, 129, 130, 131, 63, 132, 133, 134, 135, 136, 137, 138] (by decide +kernel) (by decide +kernel)
set_option maxRecDepth 20000 in
theorem ggL_law_X9_setFee_p2 : GoodIn wsL_law (wsX9_setFee_r3) := goodIn_r _ [139, 140, 141, 22, 142, 143, 144, 145, 146, 147, 148, 149, 150, 151, 152, 53, 153, 67, 68, 154, 155, 156, 157, 2] (by decide +kernel) (by decide +kernel)
set_option maxRecDepth 20000 in
theorem ggL_law_X9_setFee_p3 : GoodIn wsL_law (wsX9_setFee_r4) := goodIn_r _ [158, 159, 160, 278, 279, 280, 281, 165, 172, 173, 174, 175, 176, 177, 178, 179, 180, 181, 182, 183, 184, 185, 186, 187] (by decide +kernel) (by decide +kernel)
set_option maxRecDepth 20000 in
theorem ggL_law_X9_setFee_p4 : GoodIn wsL_law (wsX9_setFee_r5) := goodIn_r _ [29, 188, 189, 190, 191] (by decide +kernel) (by decide +kernel)
set_option maxRecDepth 20000 in
theorem ggL_law_X9_setFee_t0 : GoodIn wsL_law (wsX90) := goodIn_r _ [1054, 1055, 1056] (by decide +kernel) (by decide +kernel)
set_option maxRecDepth 20000 in
theorem ggL_law_X9_setFee_t1 : GoodIn wsL_law (wsX30) := goodIn_r _ [1072, 1073, 1074, 1075] (by decide +kernel) (by decide +kernel)
set_option maxRecDepth 20000 in
theorem ggL_law_X9_setFee_t2 : GoodIn wsL_law (wsX80) := goodIn_r _ [1089, 1090, 1091] (by decide +kernel) (by decide +kernel)
set_option maxRecDepth 20000 in
theorem ggL_law_X9_setFee_t3 : GoodIn wsL_law (wsX00) := goodIn_r _ [1092, 1093, 1094, 1095, 1096, 1097, 1098, 1099, 1100] (by decide +kernel) (by decide +kernel)
set_option maxRecDepth 20000 in
theorem ggL_law_X9_setFee_t4 : GoodIn wsL_law (wsX40) := goodIn_r _ [1104, 1105] (by decide +kernel) (by decide +kernel)
set_option maxRecDepth 20000 in
theorem ggL_law_X9_setFee_t5 : GoodIn wsL_law (wsX10) := goodIn_r _ [1106, 1107, 1108, 1109, 1110, 1111] (by decide +kernel) (by decide +kernel)
set_option maxRecDepth 20000 in
theorem ggL_law_X9_setFee_t6 : GoodIn wsL_law (wsX50) := goodIn_r _ [1082, 1083, 1084, 1085, 1086, 1087, 1088] (by decide +kernel) (by decide +kernel)
set_option maxRecDepth 20000 in
theorem ggL_law_X9_setFee_t7 : GoodIn wsL_law (wsX70) := goodIn_r _ [1101, 1102, 1103] (by decide +kernel) (by decide +kernel)
theorem ggL_law_X9_setFee : GoodIn wsL_law wsX9_setFee := (goodIn_ca (goodIn_ca (goodIn_ca (goodIn_ca (goodIn_ca (goodIn_ca (goodIn_ca (goodIn_ca (goodIn_ca ggL_law_X9_setFee_p0 (goodIn_app ggL_law_X9_setFee_p1 (goodIn_app ggL_law_X9_setFee_p2 (goodIn_app ggL_law_X9_setFee_p3 ggL_law_X9_setFee_p4)))) ggL_law_X9_setFee_t0) ggL_law_X9_setFee_t1) ggL_law_X9_setFee_t2) ggL_law_X9_setFee_t3) ggL_law_X9_setFee_t4) ggL_law_X9_setFee_t5) ggL_law_X9_setFee_t6) ggL_law_X9_setFee_t7)
set_option maxRecDepth 20000 in
theorem gL_law_X9_setFee : GoodIn wsL_law (wsV RL 32 RX9 yX9_setFee wsX9_setFee) := goodIn_app (goodIn_of _ (by decide +kernel)) ggL_law_X9_setFee
set_option maxRecDepth 20000 in
theorem ggL_law_X10_setFee : GoodIn wsL_law wsX10_setFee := goodIn_r _ [285, 196, 197, 198, 5, 199, 99, 98, 258, 259, 260, 261, 204, 208, 209, 210, 211, 212, 213, 214, 215, 216, 217, 218, 219, 101, 1057, 1058, 1059, 1060, 1061, 1062, 1063, 1064, 1065, 1066, 1067, 1068, 1069, 1070, 1071] (by decide +kernel) (by decide +kernel)
set_option maxRecDepth 20000 in
theorem gL_law_X10_setFee : GoodIn wsL_law (wsV RL 35 RX10 yX10_setFee wsX10_setFee) := goodIn_app (goodIn_of _ (by decide +kernel)) ggL_law_X10_setFee
set_option maxRecDepth 20000 in
theorem ggL_law_X9_come_p0 : GoodIn wsL_law (.code yX9_come cX9_come 2 (some .int) :: wsX9_come_r1) := goodIn_r _ [289, 15, 109, 110, 111, 14, 112, 33, 32, 113, 114, 115, 31, 116, 41, 44, 42, 117, 118, 119, 40, 120, 50, 56, 58] (by decide +kernel) (by decide +kernel)
set_option maxRecDepth 20000 in
theorem ggL_law_X9_come_p1 : GoodIn wsL_law (wsX9_come_r2) := goodIn_r _ [54, 121, 122, 123, 59, 124, 125, 126, 127, 61, 128, 72, 73, 129, 130, 131, 63, 132, 133, 134, 135, 136, 137, 138] (by decide +kernel) (by decide +kernel)
set_option maxRecDepth 20000 in
theorem ggL_law_X9_come_p2 : GoodIn wsL_law (wsX9_come_r3) := goodIn_r _ [139, 140, 141, 22, 142, 143, 144, 145, 146, 147, 148, 149, 150, 151, 152, 53, 153, 67, 68, 154, 155, 156, 157, 2] (by decide +kernel) (by decide +kernel)
set_option maxRecDepth 20000 in
theorem ggL_law_X9_come_p3 : GoodIn wsL_law (wsX9_come_r4) := goodIn_r _ [158, 159, 160, 290, 291, 292, 293, 165, 294, 172, 173, 295, 296, 297, 298, 174, 175, 176, 177, 178, 179, 180, 181, 182] (by decide +kernel) (by decide +kernel)
set_option maxRecDepth 20000 in
theorem ggL_law_X9_come_p4 : GoodIn wsL_law (wsX9_come_r5) := goodIn_r _ [183, 184, 185, 186, 187, 29, 188, 189, 190, 191] (by decide +kernel) (by decide +kernel)
set_option maxRecDepth 20000 in
theorem ggL_law_X9_come_t0 : GoodIn wsL_law (wsX90) := goodIn_r _ [1054, 1055, 1056] (by decide +kernel) (by decide +kernel)
set_option maxRecDepth 20000 in
theorem ggL_law_X9_come_t1 : GoodIn wsL_law (wsX30) := goodIn_r _ [1072, 1073, 1074, 1075] (by decide +kernel) (by decide +kernel)
set_option maxRecDepth 20000 in
theorem ggL_law_X9_come_t2 : GoodIn wsL_law (wsX80) := goodIn_r _ [1089, 1090, 1091] (by decide +kernel) (by decide +kernel)
set_option maxRecDepth 20000 in
theorem ggL_law_X9_come_t3 : GoodIn wsL_law (wsX00) := goodIn_r _ [1092, 1093, 1094, 1095, 1096, 1097, 1098, 1099, 1100] (by decide +kernel) (by decide +kernel)
set_option maxRecDepth 20000 in
theorem ggL_law_X9_come_t4 : GoodIn wsL_law (wsX40) := goodIn_r _ [1104, 1105] (by decide +kernel) (by decide +kernel)
set_option maxRecDepth 20000 in
theorem ggL_law_X9_come_t5 : GoodIn wsL_law (wsX10) := goodIn_r _ [1106, 1107, 1108, 1109, 1110, 1111] (by decide +kernel) (by decide +kernel)
set_option maxRecDepth 20000 in
theorem ggL_law_X9_come_t6 : GoodIn wsL_law (wsX50) := goodIn_r _ [1082, 1083, 1084, 1085, 1086, 1087, 1088] (by decide +kernel) (by decide +kernel)
set_option maxRecDepth 20000 in
theorem ggL_law_X9_come_t7 : GoodIn wsL_law (wsX70) := goodIn_r _ [1101, 1102, 1103] (by decide +kernel) (by decide +kernel)
theorem ggL_law_X9_come : GoodIn wsL_law wsX9_come := (goodIn_ca (goodIn_ca (goodIn_ca (goodIn_ca (goodIn_ca (goodIn_ca (goodIn_ca (goodIn_ca (goodIn_ca ggL_law_X9_come_p0 (goodIn_app ggL_law_X9_come_p1 (goodIn_app ggL_law_X9_come_p2 (goodIn_app ggL_law_X9_come_p3 ggL_law_X9_come_p4)))) ggL_law_X9_come_t0) ggL_law_X9_come_t1) ggL_law_X9_come_t2) ggL_law_X9_come_t3) ggL_law_X9_come_t4) ggL_law_X9_come_t5) ggL_law_X9_come_t6) ggL_law_X9_come_t7)
set_option maxRecDepth 20000 in
theorem gL_law_X9_come : GoodIn wsL_law (wsV RL 36 RX9 yX9_come wsX9_come) := goodIn_app (goodIn_of _ (by decide +kernel)) ggL_law_X9_come
