set_option maxRecDepth 20000 in
theorem ggL_law_X9_mixed : GoodIn wsL_law wsX9_mixed := goodIn_r _ [968, 180, 900, 901, 155, 156, 157, 2, 158, 15, 159, 160, 861, 169, 170, 40, 171, 50, 172, 173, 862, 969, 970, 971, 53, 972, 355, 973, 974, 975, 976, 68, 375, 376, 377, 378, 67, 383, 384, 385, 61, 386, 72, 73, 363, 364, 365, 366, 379, 380, 381, 382, 367, 368, 369, 370, 1095, 1096, 1097, 1098, 1099, 1100, 1101, 1102, 1103, 1057, 1058, 1059, 1075, 1076, 1077, 1078, 1092, 1093, 1094, 1104, 1105, 1106, 1107, 1108] (by decide +kernel) (by decide +kernel)
set_option maxRecDepth 20000 in
theorem gL_law_X9_mixed : GoodIn wsL_law (wsV RL 135 RX9 yX9_mixed wsX9_mixed) := goodIn_app (goodIn_of _ (by decide +kernel)) ggL_law_X9_mixed
set_option maxRecDepth 20000 in
theorem ggL_law_X10_mixed : GoodIn wsL_law wsX10_mixed := goodIn_r _ [980, 908, 204, 419, 205, 206, 5, 207, 208, 209, 210, 981, 982, 983, 984, 98, 431, 432, 433, 434, 412, 413, 414, 426, 427, 428, 429, 430, 1060, 1061, 1062, 1063, 1064, 1065, 1066, 1067, 1068, 1069, 1070, 1071, 1072, 1073, 1074] (by decide +kernel) (by decide +kernel)
set_option maxRecDepth 20000 in
theorem gL_law_X10_mixed : GoodIn wsL_law (wsV RL 138 RX10 yX10_mixed wsX10_mixed) := goodIn_app (goodIn_of _ (by decide +kernel)) ggL_law_X10_mixed
set_option maxRecDepth 20000 in
theorem ggL_law_X9_would : GoodIn wsL_law wsX9_would := goodIn_r _ [988, 180, 862, 172, 2, 173, 155, 156, 157, 158, 15, 159, 160, 989, 990, 991, 40, 992, 482, 56, 443, 446, 993, 54, 447, 448, 168, 169, 170, 171, 50, 351, 352, 353, 53, 354, 355, 356, 357, 232, 233, 234, 358, 236, 237, 359, 360, 361, 362, 68, 363, 364, 365, 61, 366, 72, 73, 367, 368, 369, 370, 67, 345, 346, 347, 348, 349, 350, 371, 372, 373, 374, 375, 376, 377, 378, 379, 380, 381, 382, 383, 384, 385, 386, 387, 388, 389, 390, 1057, 1058, 1059, 1075, 1076, 1077, 1078, 1092, 1093, 1094, 1095, 1096, 1097, 1098, 1099, 1100, 1101, 1102, 1103, 1109, 1110, 1111, 1112, 1113, 1114, 1107, 1108, 1104, 1105, 1106] (by decide +kernel) (by decide +kernel)
set_option maxRecDepth 20000 in
theorem gL_law_X9_would : GoodIn wsL_law (wsV RL 139 RX9 yX9_would wsX9_would) := goodIn_app (goodIn_of _ (by decide +kernel)) ggL_law_X9_would
set_option maxRecDepth 20000 in
theorem ggL_law_X10_would : GoodIn wsL_law wsX10_would := goodIn_r _ [997, 204, 419, 495, 208, 209, 5, 210, 998, 999, 1000, 1001, 98, 329, 330, 331, 332, 415, 416, 417, 418, 420, 421, 422, 423, 424, 425, 426, 427, 428, 429, 430, 412, 413, 414, 431, 432, 433, 434, 1060, 1061, 1062, 1063, 1064, 1065, 1066, 1067, 1068, 1069, 1070, 1071, 1072, 1073, 1074] (by decide +kernel) (by decide +kernel)
set_option maxRecDepth 20000 in
theorem gL_law_X10_would : GoodIn wsL_law (wsV RL 142 RX10 yX10_would wsX10_would) := goodIn_app (goodIn_of _ (by decide +kernel)) ggL_law_X10_would
set_option maxRecDepth 20000 in
theorem ggL_law_X9_fairest : GoodIn wsL_law wsX9_fairest := goodIn_r _ [1005, 155, 156, 157, 2, 158, 15, 159, 160, 1006, 1007, 1008, 40, 1009, 993, 482, 1010, 460, 233, 461, 1011, 990, 991, 992, 56, 443, 446, 54, 447, 448, 168, 169, 170, 171, 50, 172, 173, 351, 352, 353, 53, 354, 355, 356, 357, 232, 234, 358, 236, 237, 359, 360, 361, 362, 68, 363, 364, 365, 61, 366, 72, 73, 367, 368, 369, 370, 67, 345, 346, 347, 348, 349, 350, 371, 372, 373, 374, 375, 376, 377, 378, 379, 380, 381, 382, 383, 384, 385, 386, 387, 388, 389, 390, 1057, 1058, 1059, 1075, 1076, 1077, 1078, 1092, 1093, 1094, 1095, 1096, 1097, 1098, 1099, 1100, 1101, 1102, 1103, 1109, 1110, 1111, 1112, 1113, 1114, 1107, 1108, 1104, 1105, 1106] (by decide +kernel) (by decide +kernel)
set_option maxRecDepth 20000 in
theorem gL_law_X9_fairest : GoodIn wsL_law (wsV RL 143 RX9 yX9_fairest wsX9_fairest) := goodIn_app (goodIn_of _ (by decide +kernel)) ggL_law_X9_fairest
set_option maxRecDepth 20000 in
theorem ggL_law_X10_fairest : GoodIn wsL_law wsX10_fairest := goodIn_r _ [1015, 419, 998, 999, 1000, 5, 1001, 98, 329, 330, 331, 332, 415, 416, 417, 418, 420, 421, 422, 423, 424, 425, 426, 427, 428, 429, 430, 412, 413, 414, 431, 432, 433, 434, 471, 472, 473, 1060, 1061, 1062, 1063, 1064, 1065, 1066, 1067, 1068, 1069, 1070, 1071, 1072, 1073, 1074] (by decide +kernel) (by decide +kernel)
set_option maxRecDepth 20000 in
theorem gL_law_X10_fairest : GoodIn wsL_law (wsV RL 146 RX10 yX10_fairest wsX10_fairest) := goodIn_app (goodIn_of _ (by decide +kernel)) ggL_law_X10_fairest
set_option maxRecDepth 20000 in
theorem ggL_law_X9_soldOut : GoodIn wsL_law wsX9_soldOut := goodIn_r _ [1019, 180, 23, 155, 156, 157, 2, 158, 15, 159, 160, 886, 506, 507, 40, 508, 122, 58, 172, 173, 1020, 140, 141, 22, 142, 143, 144, 145, 146, 147, 148, 149, 1021, 1022, 1023, 1024, 1025, 1026, 543, 544, 545, 546, 547, 548, 233, 549, 345, 346, 347, 348, 349, 350, 1057, 1058, 1059, 1075, 1076, 1077, 1078, 1092, 1093, 1094, 1095, 1096, 1097, 1098, 1099, 1100, 1101, 1102, 1103, 1085, 1086, 1087, 1088, 1089, 1090, 1091] (by decide +kernel) (by decide +kernel)
set_option maxRecDepth 20000 in
theorem gL_law_X9_soldOut : GoodIn wsL_law (wsV RL 147 RX9 yX9_soldOut wsX9_soldOut) := goodIn_app (goodIn_of _ (by decide +kernel)) ggL_law_X9_soldOut
set_option maxRecDepth 20000 in
theorem ggL_law_X10_soldOut : GoodIn wsL_law wsX10_soldOut := goodIn_r _ [1030, 204, 419, 513, 514, 515, 5, 516, 98, 208, 209, 210, 517, 518, 519, 520, 558, 559, 560, 561, 1060, 1061, 1062, 1063, 1064, 1065, 1066, 1067, 1068, 1069, 1070, 1071, 1072, 1073, 1074] (by decide +kernel) (by decide +kernel)
set_option maxRecDepth 20000 in
theorem gL_law_X10_soldOut : GoodIn wsL_law (wsV RL 150 RX10 yX10_soldOut wsX10_soldOut) := goodIn_app (goodIn_of _ (by decide +kernel)) ggL_law_X10_soldOut
set_option maxRecDepth 20000 in
theorem ggL_law_X9_shop : GoodIn wsL_law wsX9_shop := goodIn_r _ [1034, 180, 1035, 155, 156, 157, 2, 158, 15, 159, 160, 871, 318, 319, 40, 320, 121, 56, 172, 173, 862, 1036, 1037, 1038, 1039, 504, 529, 231, 232, 233, 234, 1040, 1041, 1042, 1043, 1044, 122, 1045, 1046, 1047, 1048, 505, 506, 507, 508, 58, 345, 346, 347, 348, 349, 350, 1109, 1110, 1111, 1112, 1113, 1114, 1057, 1058, 1059, 1075, 1076, 1077, 1078, 1092, 1093, 1094, 1095, 1096, 1097, 1098, 1099, 1100, 1101, 1102, 1103, 1085, 1086, 1087, 1088, 1089, 1090, 1091] (by decide +kernel) (by decide +kernel)
set_option maxRecDepth 20000 in
theorem gL_law_X9_shop : GoodIn wsL_law (wsV RL 151 RX9 yX9_shop wsX9_shop) := goodIn_app (goodIn_of _ (by decide +kernel)) ggL_law_X9_shop
set_option maxRecDepth 20000 in
theorem ggL_law_X10_shop : GoodIn wsL_law wsX10_shop := goodIn_r _ [1052, 204, 98, 325, 326, 327, 5, 328, 208, 209, 210, 329, 330, 331, 332, 1053, 1054, 1055, 1056, 517, 518, 519, 520, 1060, 1061, 1062, 1063, 1064, 1065, 1066, 1067, 1068, 1069, 1070, 1071, 1072, 1073, 1074] (by decide +kernel) (by decide +kernel)
set_option maxRecDepth 20000 in
theorem gL_law_X10_shop : GoodIn wsL_law (wsV RL 154 RX10 yX10_shop wsX10_shop) := goodIn_app (goodIn_of _ (by decide +kernel)) ggL_law_X10_shop
theorem dL_law_0 : decode cL_law 0 = .ok (.new 7, 3) := by decide +kernel
theorem dL_law_3 : decode cL_law 3 = .ok (.dup, 1) := by decide +kernel
theorem dL_law_4 : decode cL_law 4 = .ok (.invokespecial 9, 3) := by decide +kernel
theorem dL_law_7 : decode cL_law 7 = .ok (.astore_n 1, 1) := by decide +kernel
theorem dL_law_8 : decode cL_law 8 = .ok (.new 10, 3) := by decide +kernel
theorem dL_law_11 : decode cL_law 11 = .ok (.dup, 1) := by decide +kernel
theorem dL_law_12 : decode cL_law 12 = .ok (.invokespecial 12, 3) := by decide +kernel
theorem dL_law_15 : decode cL_law 15 = .ok (.astore_n 2, 1) := by decide +kernel
theorem dL_law_16 : decode cL_law 16 = .ok (.iconst 0, 1) := by decide +kernel
theorem dL_law_17 : decode cL_law 17 = .ok (.istore_n 3, 1) := by decide +kernel
theorem dL_law_18 : decode cL_law 18 = .ok (.iload_n 3, 1) := by decide +kernel
theorem dL_law_19 : decode cL_law 19 = .ok (.aload_n 0, 1) := by decide +kernel
theorem dL_law_20 : decode cL_law 20 = .ok (.arraylength, 1) := by decide +kernel
theorem dL_law_21 : decode cL_law 21 = .ok (.bipush 6, 2) := by decide +kernel
theorem dL_law_23 : decode cL_law 23 = .ok (.isub, 1) := by decide +kernel
theorem dL_law_24 : decode cL_law 24 = .ok (.if_icmp .gt 1168, 3) := by decide +kernel
theorem dL_law_27 : decode cL_law 27 = .ok (.aload_n 0, 1) := by decide +kernel
theorem dL_law_28 : decode cL_law 28 = .ok (.iload_n 3, 1) := by decide +kernel
theorem dL_law_29 : decode cL_law 29 = .ok (.iaload, 1) := by decide +kernel
theorem dL_law_30 : decode cL_law 30 = .ok (.bipush 63, 2) := by decide +kernel
theorem dL_law_32 : decode cL_law 32 = .ok (.iand, 1) := by decide +kernel
theorem dL_law_33 : decode cL_law 33 = .ok (.tableswitch 1153 0 33 #[151, 194, 227, 250, 273, 296, 319, 342, 395, 428, 491, 514, 547, 590, 613, 636, 649, 672, 685, 698, 721, 744, 777, 810, 843, 866, 909, 952, 975, 1008, 1061, 1084, 1097, 1120], 151) := by decide +kernel
theorem dL_law_184 : decode cL_law 184 = .ok (.aload_n 1, 1) := by decide +kernel
theorem dL_law_185 : decode cL_law 185 = .ok (.aload_n 0, 1) := by decide +kernel
theorem dL_law_186 : decode cL_law 186 = .ok (.iload_n 3, 1) := by decide +kernel
theorem dL_law_187 : decode cL_law 187 = .ok (.iconst 1, 1) := by decide +kernel
theorem dL_law_188 : decode cL_law 188 = .ok (.iadd, 1) := by decide +kernel
theorem dL_law_189 : decode cL_law 189 = .ok (.iaload, 1) := by decide +kernel
theorem dL_law_190 : decode cL_law 190 = .ok (.aload_n 0, 1) := by decide +kernel
theorem dL_law_191 : decode cL_law 191 = .ok (.iload_n 3, 1) := by decide +kernel
theorem dL_law_192 : decode cL_law 192 = .ok (.iconst 2, 1) := by decide +kernel
theorem dL_law_193 : decode cL_law 193 = .ok (.iadd, 1) := by decide +kernel
theorem dL_law_194 : decode cL_law 194 = .ok (.iaload, 1) := by decide +kernel
theorem dL_law_195 : decode cL_law 195 = .ok (.aload_n 0, 1) := by decide +kernel
theorem dL_law_196 : decode cL_law 196 = .ok (.iload_n 3, 1) := by decide +kernel
theorem dL_law_197 : decode cL_law 197 = .ok (.iconst 3, 1) := by decide +kernel
theorem dL_law_198 : decode cL_law 198 = .ok (.iadd, 1) := by decide +kernel
theorem dL_law_199 : decode cL_law 199 = .ok (.iaload, 1) := by decide +kernel
theorem dL_law_200 : decode cL_law 200 = .ok (.invokevirtual 13, 3) := by decide +kernel
theorem dL_law_203 : decode cL_law 203 = .ok (.aload_n 2, 1) := by decide +kernel
