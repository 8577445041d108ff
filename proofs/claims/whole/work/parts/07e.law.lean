set_option maxRecDepth 20000 in
theorem ggL_law_X10_weigh_p2 : GoodIn wsL_law (wsX10_weigh_r3) := goodIn_r _ [434, 211, 212, 213, 214, 215, 216, 217, 218, 219, 101] (by decide +kernel) (by decide +kernel)
set_option maxRecDepth 20000 in
theorem ggL_law_X10_weigh_t0 : GoodIn wsL_law (wsX100) := goodIn_r _ [1057, 1058, 1059, 1060, 1061, 1062, 1063, 1064, 1065, 1066, 1067, 1068, 1069, 1070, 1071] (by decide +kernel) (by decide +kernel)
theorem ggL_law_X10_weigh : GoodIn wsL_law wsX10_weigh := (goodIn_ca (goodIn_ca ggL_law_X10_weigh_p0 (goodIn_app ggL_law_X10_weigh_p1 ggL_law_X10_weigh_p2)) ggL_law_X10_weigh_t0)
set_option maxRecDepth 20000 in
theorem gL_law_X10_weigh : GoodIn wsL_law (wsV RL 48 RX10 yX10_weigh wsX10_weigh) := goodIn_app (goodIn_of _ (by decide +kernel)) ggL_law_X10_weigh
set_option maxRecDepth 20000 in
theorem ggL_law_X9_claim_p0 : GoodIn wsL_law (.code yX9_claim cX9_claim 3 (some .int) :: wsX9_claim_r1) := goodIn_r _ [438, 15, 109, 110, 111, 14, 112, 33, 32, 113, 114, 115, 31, 116, 41, 44, 42, 117, 118, 119, 40, 120, 50, 56, 58] (by decide +kernel) (by decide +kernel)
set_option maxRecDepth 20000 in
theorem ggL_law_X9_claim_p1 : GoodIn wsL_law (wsX9_claim_r2) := goodIn_r _ [54, 121, 122, 123, 59, 124, 125, 126, 127, 61, 128, 72, 73, 129, 130, 131, 63, 132, 133, 134, 135, 136, 137, 138] (by decide +kernel) (by decide +kernel)
set_option maxRecDepth 20000 in
theorem ggL_law_X9_claim_p2 : GoodIn wsL_law (wsX9_claim_r3) := goodIn_r _ [139, 140, 141, 22, 142, 143, 144, 145, 146, 147, 148, 149, 150, 151, 152, 53, 153, 67, 68, 154, 155, 156, 157, 2] (by decide +kernel) (by decide +kernel)
set_option maxRecDepth 20000 in
theorem ggL_law_X9_claim_p3 : GoodIn wsL_law (wsX9_claim_r4) := goodIn_r _ [158, 159, 160, 439, 440, 441, 442, 165, 443, 444, 445, 446, 447, 448, 317, 318, 319, 320, 172, 173, 168, 169, 170, 171] (by decide +kernel) (by decide +kernel)
set_option maxRecDepth 20000 in
theorem ggL_law_X9_claim_p4 : GoodIn wsL_law (wsX9_claim_r5) := goodIn_r _ [449, 450, 451, 452, 453, 360, 361, 362, 358, 236, 233, 237, 363, 364, 365, 366, 367, 368, 369, 370, 345, 346, 347, 348] (by decide +kernel) (by decide +kernel)
set_option maxRecDepth 20000 in
theorem ggL_law_X9_claim_p5 : GoodIn wsL_law (wsX9_claim_r6) := goodIn_r _ [349, 350, 454, 372, 373, 374, 375, 376, 377, 378, 379, 380, 381, 382, 383, 384, 385, 386, 391, 392, 393, 394, 395, 455] (by decide +kernel) (by decide +kernel)
set_option maxRecDepth 20000 in
theorem ggL_law_X9_claim_p6 : GoodIn wsL_law (wsX9_claim_r7) := goodIn_r _ [456, 457, 458, 459, 460, 461, 174, 175, 176, 177, 178, 179, 180, 181, 182, 183, 184, 185, 186, 187, 29, 188, 189, 190] (by decide +kernel) (by decide +kernel)
set_option maxRecDepth 20000 in
theorem ggL_law_X9_claim_p7 : GoodIn wsL_law (wsX9_claim_r8) := goodIn_r _ [191] (by decide +kernel) (by decide +kernel)
set_option maxRecDepth 20000 in
theorem ggL_law_X9_claim_t0 : GoodIn wsL_law (wsX90) := goodIn_r _ [1054, 1055, 1056] (by decide +kernel) (by decide +kernel)
set_option maxRecDepth 20000 in
theorem ggL_law_X9_claim_t1 : GoodIn wsL_law (wsX30) := goodIn_r _ [1072, 1073, 1074, 1075] (by decide +kernel) (by decide +kernel)
set_option maxRecDepth 20000 in
theorem ggL_law_X9_claim_t2 : GoodIn wsL_law (wsX80) := goodIn_r _ [1089, 1090, 1091] (by decide +kernel) (by decide +kernel)
set_option maxRecDepth 20000 in
theorem ggL_law_X9_claim_t3 : GoodIn wsL_law (wsX00) := goodIn_r _ [1092, 1093, 1094, 1095, 1096, 1097, 1098, 1099, 1100] (by decide +kernel) (by decide +kernel)
set_option maxRecDepth 20000 in
theorem ggL_law_X9_claim_t4 : GoodIn wsL_law (wsX40) := goodIn_r _ [1104, 1105] (by decide +kernel) (by decide +kernel)
set_option maxRecDepth 20000 in
theorem ggL_law_X9_claim_t5 : GoodIn wsL_law (wsX10) := goodIn_r _ [1106, 1107, 1108, 1109, 1110, 1111] (by decide +kernel) (by decide +kernel)
set_option maxRecDepth 20000 in
theorem ggL_law_X9_claim_t6 : GoodIn wsL_law (wsX50) := goodIn_r _ [1082, 1083, 1084, 1085, 1086, 1087, 1088] (by decide +kernel) (by decide +kernel)
set_option maxRecDepth 20000 in
theorem ggL_law_X9_claim_t7 : GoodIn wsL_law (wsX70) := goodIn_r _ [1101, 1102, 1103] (by decide +kernel) (by decide +kernel)
theorem ggL_law_X9_claim : GoodIn wsL_law wsX9_claim := (goodIn_ca (goodIn_ca (goodIn_ca (goodIn_ca (goodIn_ca (goodIn_ca (goodIn_ca (goodIn_ca (goodIn_ca ggL_law_X9_claim_p0 (goodIn_app ggL_law_X9_claim_p1 (goodIn_app ggL_law_X9_claim_p2 (goodIn_app ggL_law_X9_claim_p3 (goodIn_app ggL_law_X9_claim_p4 (goodIn_app ggL_law_X9_claim_p5 (goodIn_app ggL_law_X9_claim_p6 ggL_law_X9_claim_p7))))))) ggL_law_X9_claim_t0) ggL_law_X9_claim_t1) ggL_law_X9_claim_t2) ggL_law_X9_claim_t3) ggL_law_X9_claim_t4) ggL_law_X9_claim_t5) ggL_law_X9_claim_t6) ggL_law_X9_claim_t7)
set_option maxRecDepth 20000 in
theorem gL_law_X9_claim : GoodIn wsL_law (wsV RL 49 RX9 yX9_claim wsX9_claim) := goodIn_app (goodIn_of _ (by decide +kernel)) ggL_law_X9_claim
set_option maxRecDepth 20000 in
theorem ggL_law_X10_claim_p0 : GoodIn wsL_law (.code yX10_claim cX10_claim 3 (some .int) :: wsX10_claim_r1) := goodIn_r _ [465, 196, 197, 198, 5, 199, 99, 98, 466, 467, 468, 469, 204, 470, 420, 421, 325, 326, 327, 328, 208, 209, 210, 329, 330] (by decide +kernel) (by decide +kernel)
set_option maxRecDepth 20000 in
theorem ggL_law_X10_claim_p1 : GoodIn wsL_law (wsX10_claim_r2) := goodIn_r _ [331, 332, 422, 423, 424, 425, 426, 427, 428, 429, 430, 412, 413, 414, 431, 432, 433, 434, 471, 472, 473, 211, 212, 213] (by decide +kernel) (by decide +kernel)
set_option maxRecDepth 20000 in
theorem ggL_law_X10_claim_p2 : GoodIn wsL_law (wsX10_claim_r3) := goodIn_r _ [214, 215, 216, 217, 218, 219, 101] (by decide +kernel) (by decide +kernel)
set_option maxRecDepth 20000 in
theorem ggL_law_X10_claim_t0 : GoodIn wsL_law (wsX100) := goodIn_r _ [1057, 1058, 1059, 1060, 1061, 1062, 1063, 1064, 1065, 1066, 1067, 1068, 1069, 1070, 1071] (by decide +kernel) (by decide +kernel)
theorem ggL_law_X10_claim : GoodIn wsL_law wsX10_claim := (goodIn_ca (goodIn_ca ggL_law_X10_claim_p0 (goodIn_app ggL_law_X10_claim_p1 ggL_law_X10_claim_p2)) ggL_law_X10_claim_t0)
set_option maxRecDepth 20000 in
theorem gL_law_X10_claim : GoodIn wsL_law (wsV RL 52 RX10 yX10_claim wsX10_claim) := goodIn_app (goodIn_of _ (by decide +kernel)) ggL_law_X10_claim
set_option maxRecDepth 20000 in
theorem ggL_law_X9_addPrize_p0 : GoodIn wsL_law (.code yX9_addPrize cX9_addPrize 6 (some .int) :: wsX9_addPrize_r1) := goodIn_r _ [477, 15, 109, 110, 111, 14, 112, 33, 32, 113, 114, 115, 31, 116, 41, 44, 42, 117, 118, 119, 40, 120, 50, 56, 58] (by decide +kernel) (by decide +kernel)
set_option maxRecDepth 20000 in
theorem ggL_law_X9_addPrize_p1 : GoodIn wsL_law (wsX9_addPrize_r2) := goodIn_r _ [54, 121, 122, 123, 59, 124, 125, 126, 127, 61, 128, 72, 73, 129, 130, 131, 63, 132, 133, 134, 135, 136, 137, 138] (by decide +kernel) (by decide +kernel)
set_option maxRecDepth 20000 in
theorem ggL_law_X9_addPrize_p2 : GoodIn wsL_law (wsX9_addPrize_r3) := goodIn_r _ [139, 140, 141, 22, 142, 143, 144, 145, 146, 147, 148, 149, 150, 151, 152, 53, 153, 67, 68, 154, 155, 156, 157, 2] (by decide +kernel) (by decide +kernel)
set_option maxRecDepth 20000 in
theorem ggL_law_X9_addPrize_p3 : GoodIn wsL_law (wsX9_addPrize_r4) := goodIn_r _ [158, 159, 160, 478, 479, 480, 481, 165, 482, 294, 172, 173, 483, 484, 485, 486, 174, 175, 176, 177, 178, 179, 180, 181] (by decide +kernel) (by decide +kernel)
set_option maxRecDepth 20000 in
theorem ggL_law_X9_addPrize_p4 : GoodIn wsL_law (wsX9_addPrize_r5) := goodIn_r _ [182, 183, 184, 185, 186, 187, 29, 188, 189, 190, 191] (by decide +kernel) (by decide +kernel)
set_option maxRecDepth 20000 in
theorem ggL_law_X9_addPrize_t0 : GoodIn wsL_law (wsX90) := goodIn_r _ [1054, 1055, 1056] (by decide +kernel) (by decide +kernel)
set_option maxRecDepth 20000 in
theorem ggL_law_X9_addPrize_t1 : GoodIn wsL_law (wsX30) := goodIn_r _ [1072, 1073, 1074, 1075] (by decide +kernel) (by decide +kernel)
set_option maxRecDepth 20000 in
theorem ggL_law_X9_addPrize_t2 : GoodIn wsL_law (wsX80) := goodIn_r _ [1089, 1090, 1091] (by decide +kernel) (by decide +kernel)
set_option maxRecDepth 20000 in
theorem ggL_law_X9_addPrize_t3 : GoodIn wsL_law (wsX00) := goodIn_r _ [1092, 1093, 1094, 1095, 1096, 1097, 1098, 1099, 1100] (by decide +kernel) (by decide +kernel)
set_option maxRecDepth 20000 in
theorem ggL_law_X9_addPrize_t4 : GoodIn wsL_law (wsX40) := goodIn_r _ [1104, 1105] (by decide +kernel) (by decide +kernel)
