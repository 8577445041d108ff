set_option maxRecDepth 20000 in
theorem ggL_law_X9_would_t0 : GoodIn wsL_law (wsX90) := goodIn_r _ [1054, 1055, 1056] (by decide +kernel) (by decide +kernel)
set_option maxRecDepth 20000 in
theorem ggL_law_X9_would_t1 : GoodIn wsL_law (wsX30) := goodIn_r _ [1072, 1073, 1074, 1075] (by decide +kernel) (by decide +kernel)
set_option maxRecDepth 20000 in
theorem ggL_law_X9_would_t2 : GoodIn wsL_law (wsX80) := goodIn_r _ [1089, 1090, 1091] (by decide +kernel) (by decide +kernel)
set_option maxRecDepth 20000 in
theorem ggL_law_X9_would_t3 : GoodIn wsL_law (wsX00) := goodIn_r _ [1092, 1093, 1094, 1095, 1096, 1097, 1098, 1099, 1100] (by decide +kernel) (by decide +kernel)
set_option maxRecDepth 20000 in
theorem ggL_law_X9_would_t4 : GoodIn wsL_law (wsX10) := goodIn_r _ [1106, 1107, 1108, 1109, 1110, 1111] (by decide +kernel) (by decide +kernel)
set_option maxRecDepth 20000 in
theorem ggL_law_X9_would_t5 : GoodIn wsL_law (wsX40) := goodIn_r _ [1104, 1105] (by decide +kernel) (by decide +kernel)
set_option maxRecDepth 20000 in
theorem ggL_law_X9_would_t6 : GoodIn wsL_law (wsX70) := goodIn_r _ [1101, 1102, 1103] (by decide +kernel) (by decide +kernel)
theorem ggL_law_X9_would : GoodIn wsL_law wsX9_would := (goodIn_ca (goodIn_ca (goodIn_ca (goodIn_ca (goodIn_ca (goodIn_ca (goodIn_ca (goodIn_ca ggL_law_X9_would_p0 (goodIn_app ggL_law_X9_would_p1 (goodIn_app ggL_law_X9_would_p2 ggL_law_X9_would_p3))) ggL_law_X9_would_t0) ggL_law_X9_would_t1) ggL_law_X9_would_t2) ggL_law_X9_would_t3) ggL_law_X9_would_t4) ggL_law_X9_would_t5) ggL_law_X9_would_t6)
set_option maxRecDepth 20000 in
theorem gL_law_X9_would : GoodIn wsL_law (wsV RL 139 RX9 yX9_would wsX9_would) := goodIn_app (goodIn_of _ (by decide +kernel)) ggL_law_X9_would
set_option maxRecDepth 20000 in
theorem ggL_law_X10_would : GoodIn wsL_law wsX10_would := goodIn_r _ [994, 204, 419, 495, 208, 209, 5, 210, 995, 996, 997, 998, 98, 329, 330, 331, 332, 415, 416, 417, 418, 420, 421, 422, 423, 424, 425, 426, 427, 428, 429, 430, 412, 413, 414, 431, 432, 433, 434, 1057, 1058, 1059, 1060, 1061, 1062, 1063, 1064, 1065, 1066, 1067, 1068, 1069, 1070, 1071] (by decide +kernel) (by decide +kernel)
set_option maxRecDepth 20000 in
theorem gL_law_X10_would : GoodIn wsL_law (wsV RL 142 RX10 yX10_would wsX10_would) := goodIn_app (goodIn_of _ (by decide +kernel)) ggL_law_X10_would
set_option maxRecDepth 20000 in
theorem ggL_law_X9_fairest_p0 : GoodIn wsL_law (.code yX9_fairest cX9_fairest 1 (some .int) :: wsX9_fairest_r1) := goodIn_r _ [1002, 155, 156, 157, 2, 158, 15, 159, 160, 1003, 1004, 1005, 40, 1006, 990, 482, 1007, 460, 233, 461, 1008, 987, 988, 989, 56] (by decide +kernel) (by decide +kernel)
set_option maxRecDepth 20000 in
theorem ggL_law_X9_fairest_p1 : GoodIn wsL_law (wsX9_fairest_r2) := goodIn_r _ [443, 446, 54, 447, 448, 168, 169, 170, 171, 50, 172, 173, 351, 352, 353, 53, 354, 355, 356, 357, 232, 234, 358, 236] (by decide +kernel) (by decide +kernel)
set_option maxRecDepth 20000 in
theorem ggL_law_X9_fairest_p2 : GoodIn wsL_law (wsX9_fairest_r3) := goodIn_r _ [237, 359, 360, 361, 362, 68, 363, 364, 365, 61, 366, 72, 73, 367, 368, 369, 370, 67, 345, 346, 347, 348, 349, 350] (by decide +kernel) (by decide +kernel)
set_option maxRecDepth 20000 in
theorem ggL_law_X9_fairest_p3 : GoodIn wsL_law (wsX9_fairest_r4) := goodIn_r _ [371, 372, 373, 374, 375, 376, 377, 378, 379, 380, 381, 382, 383, 384, 385, 386, 387, 388, 389, 390] (by decide +kernel) (by decide +kernel)
set_option maxRecDepth 20000 in
theorem ggL_law_X9_fairest_t0 : GoodIn wsL_law (wsX90) := goodIn_r _ [1054, 1055, 1056] (by decide +kernel) (by decide +kernel)
set_option maxRecDepth 20000 in
theorem ggL_law_X9_fairest_t1 : GoodIn wsL_law (wsX30) := goodIn_r _ [1072, 1073, 1074, 1075] (by decide +kernel) (by decide +kernel)
set_option maxRecDepth 20000 in
theorem ggL_law_X9_fairest_t2 : GoodIn wsL_law (wsX80) := goodIn_r _ [1089, 1090, 1091] (by decide +kernel) (by decide +kernel)
set_option maxRecDepth 20000 in
theorem ggL_law_X9_fairest_t3 : GoodIn wsL_law (wsX00) := goodIn_r _ [1092, 1093, 1094, 1095, 1096, 1097, 1098, 1099, 1100] (by decide +kernel) (by decide +kernel)
set_option maxRecDepth 20000 in
theorem ggL_law_X9_fairest_t4 : GoodIn wsL_law (wsX10) := goodIn_r _ [1106, 1107, 1108, 1109, 1110, 1111] (by decide +kernel) (by decide +kernel)
set_option maxRecDepth 20000 in
theorem ggL_law_X9_fairest_t5 : GoodIn wsL_law (wsX40) := goodIn_r _ [1104, 1105] (by decide +kernel) (by decide +kernel)
set_option maxRecDepth 20000 in
theorem ggL_law_X9_fairest_t6 : GoodIn wsL_law (wsX70) := goodIn_r _ [1101, 1102, 1103] (by decide +kernel) (by decide +kernel)
theorem ggL_law_X9_fairest : GoodIn wsL_law wsX9_fairest := (goodIn_ca (goodIn_ca (goodIn_ca (goodIn_ca (goodIn_ca (goodIn_ca (goodIn_ca (goodIn_ca ggL_law_X9_fairest_p0 (goodIn_app ggL_law_X9_fairest_p1 (goodIn_app ggL_law_X9_fairest_p2 ggL_law_X9_fairest_p3))) ggL_law_X9_fairest_t0) ggL_law_X9_fairest_t1) ggL_law_X9_fairest_t2) ggL_law_X9_fairest_t3) ggL_law_X9_fairest_t4) ggL_law_X9_fairest_t5) ggL_law_X9_fairest_t6)
set_option maxRecDepth 20000 in
theorem gL_law_X9_fairest : GoodIn wsL_law (wsV RL 143 RX9 yX9_fairest wsX9_fairest) := goodIn_app (goodIn_of _ (by decide +kernel)) ggL_law_X9_fairest
set_option maxRecDepth 20000 in
theorem ggL_law_X10_fairest : GoodIn wsL_law wsX10_fairest := goodIn_r _ [1012, 419, 995, 996, 997, 5, 998, 98, 329, 330, 331, 332, 415, 416, 417, 418, 420, 421, 422, 423, 424, 425, 426, 427, 428, 429, 430, 412, 413, 414, 431, 432, 433, 434, 471, 472, 473, 1057, 1058, 1059, 1060, 1061, 1062, 1063, 1064, 1065, 1066, 1067, 1068, 1069, 1070, 1071] (by decide +kernel) (by decide +kernel)
set_option maxRecDepth 20000 in
theorem gL_law_X10_fairest : GoodIn wsL_law (wsV RL 146 RX10 yX10_fairest wsX10_fairest) := goodIn_app (goodIn_of _ (by decide +kernel)) ggL_law_X10_fairest
set_option maxRecDepth 20000 in
theorem ggL_law_X9_soldOut_p0 : GoodIn wsL_law (.code yX9_soldOut cX9_soldOut 3 (some .int) :: wsX9_soldOut_r1) := goodIn_r _ [1016, 180, 23, 155, 156, 157, 2, 158, 15, 159, 160, 883, 506, 507, 40, 508, 122, 58, 172, 173, 1017, 140, 141, 22, 142] (by decide +kernel) (by decide +kernel)
set_option maxRecDepth 20000 in
theorem ggL_law_X9_soldOut_p1 : GoodIn wsL_law (wsX9_soldOut_r2) := goodIn_r _ [143, 144, 145, 146, 147, 148, 149, 1018, 1019, 1020, 1021, 1022, 1023, 543, 544, 545, 546, 232, 233, 234, 345, 346, 347, 348] (by decide +kernel) (by decide +kernel)
set_option maxRecDepth 20000 in
theorem ggL_law_X9_soldOut_p2 : GoodIn wsL_law (wsX9_soldOut_r3) := goodIn_r _ [349, 350] (by decide +kernel) (by decide +kernel)
set_option maxRecDepth 20000 in
theorem ggL_law_X9_soldOut_t0 : GoodIn wsL_law (wsX90) := goodIn_r _ [1054, 1055, 1056] (by decide +kernel) (by decide +kernel)
set_option maxRecDepth 20000 in
theorem ggL_law_X9_soldOut_t1 : GoodIn wsL_law (wsX30) := goodIn_r _ [1072, 1073, 1074, 1075] (by decide +kernel) (by decide +kernel)
set_option maxRecDepth 20000 in
theorem ggL_law_X9_soldOut_t2 : GoodIn wsL_law (wsX80) := goodIn_r _ [1089, 1090, 1091] (by decide +kernel) (by decide +kernel)
set_option maxRecDepth 20000 in
theorem ggL_law_X9_soldOut_t3 : GoodIn wsL_law (wsX00) := goodIn_r _ [1092, 1093, 1094, 1095, 1096, 1097, 1098, 1099, 1100] (by decide +kernel) (by decide +kernel)
set_option maxRecDepth 20000 in
theorem ggL_law_X9_soldOut_t4 : GoodIn wsL_law (wsX50) := goodIn_r _ [1082, 1083, 1084, 1085, 1086, 1087, 1088] (by decide +kernel) (by decide +kernel)
theorem ggL_law_X9_soldOut : GoodIn wsL_law wsX9_soldOut := (goodIn_ca (goodIn_ca (goodIn_ca (goodIn_ca (goodIn_ca (goodIn_ca ggL_law_X9_soldOut_p0 (goodIn_app ggL_law_X9_soldOut_p1 ggL_law_X9_soldOut_p2)) ggL_law_X9_soldOut_t0) ggL_law_X9_soldOut_t1) ggL_law_X9_soldOut_t2) ggL_law_X9_soldOut_t3) ggL_law_X9_soldOut_t4)
set_option maxRecDepth 20000 in
theorem gL_law_X9_soldOut : GoodIn wsL_law (wsV RL 147 RX9 yX9_soldOut wsX9_soldOut) := goodIn_app (goodIn_of _ (by decide +kernel)) ggL_law_X9_soldOut
set_option maxRecDepth 20000 in
theorem ggL_law_X10_soldOut : GoodIn wsL_law wsX10_soldOut := goodIn_r _ [1027, 204, 419, 513, 514, 515, 5, 516, 98, 208, 209, 210, 517, 518, 519, 520, 555, 556, 557, 558, 1057, 1058, 1059, 1060, 1061, 1062, 1063, 1064, 1065, 1066, 1067, 1068, 1069, 1070, 1071] (by decide +kernel) (by decide +kernel)
set_option maxRecDepth 20000 in
theorem gL_law_X10_soldOut : GoodIn wsL_law (wsV RL 150 RX10 yX10_soldOut wsX10_soldOut) := goodIn_app (goodIn_of _ (by decide +kernel)) ggL_law_X10_soldOut
set_option maxRecDepth 20000 in
theorem ggL_law_X9_shop_p0 : GoodIn wsL_law (.code yX9_shop cX9_shop 4 (some .int) :: wsX9_shop_r1) := goodIn_r _ [1031, 180, 1032, 155, 156, 157, 2, 158, 15, 159, 160, 868, 318, 319, 40, 320, 121, 56, 172, 173, 859, 1033, 1034, 1035, 1036] (by decide +kernel) (by decide +kernel)
set_option maxRecDepth 20000 in
theorem ggL_law_X9_shop_p1 : GoodIn wsL_law (wsX9_shop_r2) := goodIn_r _ [504, 529, 231, 232, 233, 234, 1037, 1038, 1039, 1040, 1041, 122, 1042, 1043, 1044, 1045, 505, 506, 507, 508, 58, 345, 346, 347] (by decide +kernel) (by decide +kernel)
