set_option maxRecDepth 20000 in
theorem ggL_law_X9_apartUpTo_t0 : GoodIn wsL_law (wsX00) := goodIn_r _ [1092, 1093, 1094, 1095, 1096, 1097, 1098, 1099, 1100] (by decide +kernel) (by decide +kernel)
set_option maxRecDepth 20000 in
theorem ggL_law_X9_apartUpTo_t1 : GoodIn wsL_law (wsX90) := goodIn_r _ [1054, 1055, 1056] (by decide +kernel) (by decide +kernel)
set_option maxRecDepth 20000 in
theorem ggL_law_X9_apartUpTo_t2 : GoodIn wsL_law (wsX30) := goodIn_r _ [1072, 1073, 1074, 1075] (by decide +kernel) (by decide +kernel)
set_option maxRecDepth 20000 in
theorem ggL_law_X9_apartUpTo_t3 : GoodIn wsL_law (wsX80) := goodIn_r _ [1089, 1090, 1091] (by decide +kernel) (by decide +kernel)
set_option maxRecDepth 20000 in
theorem ggL_law_X9_apartUpTo_t4 : GoodIn wsL_law (wsX70) := goodIn_r _ [1101, 1102, 1103] (by decide +kernel) (by decide +kernel)
set_option maxRecDepth 20000 in
theorem ggL_law_X9_apartUpTo_t5 : GoodIn wsL_law (wsX40) := goodIn_r _ [1104, 1105] (by decide +kernel) (by decide +kernel)
theorem ggL_law_X9_apartUpTo : GoodIn wsL_law wsX9_apartUpTo := (goodIn_ca (goodIn_ca (goodIn_ca (goodIn_ca (goodIn_ca (goodIn_ca (goodIn_ca ggL_law_X9_apartUpTo_p0 (goodIn_app ggL_law_X9_apartUpTo_p1 ggL_law_X9_apartUpTo_p2)) ggL_law_X9_apartUpTo_t0) ggL_law_X9_apartUpTo_t1) ggL_law_X9_apartUpTo_t2) ggL_law_X9_apartUpTo_t3) ggL_law_X9_apartUpTo_t4) ggL_law_X9_apartUpTo_t5)
set_option maxRecDepth 20000 in
theorem gL_law_X9_apartUpTo : GoodIn wsL_law (wsV RL 127 RX9 yX9_apartUpTo wsX9_apartUpTo) := goodIn_app (goodIn_of _ (by decide +kernel)) ggL_law_X9_apartUpTo
set_option maxRecDepth 20000 in
theorem ggL_law_X10_apartUpTo : GoodIn wsL_law wsX10_apartUpTo := goodIn_r _ [941, 98, 204, 205, 206, 5, 207, 208, 209, 210, 942, 943, 944, 945, 408, 409, 410, 411, 412, 413, 414, 1057, 1058, 1059, 1060, 1061, 1062, 1063, 1064, 1065, 1066, 1067, 1068, 1069, 1070, 1071] (by decide +kernel) (by decide +kernel)
set_option maxRecDepth 20000 in
theorem gL_law_X10_apartUpTo : GoodIn wsL_law (wsV RL 130 RX10 yX10_apartUpTo wsX10_apartUpTo) := goodIn_app (goodIn_of _ (by decide +kernel)) ggL_law_X10_apartUpTo
set_option maxRecDepth 20000 in
theorem ggL_law_X9_bestStep_p0 : GoodIn wsL_law (.code yX9_bestStep cX9_bestStep 4 (some .int) :: wsX9_bestStep_r1) := goodIn_r _ [949, 180, 898, 155, 156, 157, 2, 158, 15, 159, 160, 858, 169, 170, 40, 171, 50, 172, 173, 859, 950, 951, 952, 53, 953] (by decide +kernel) (by decide +kernel)
set_option maxRecDepth 20000 in
theorem ggL_law_X9_bestStep_p1 : GoodIn wsL_law (wsX9_bestStep_r2) := goodIn_r _ [355, 954, 955, 956, 957, 934, 935, 936, 937, 68, 363, 364, 365, 61, 366, 72, 73, 341, 342, 343, 236, 233, 237, 344] (by decide +kernel) (by decide +kernel)
set_option maxRecDepth 20000 in
theorem ggL_law_X9_bestStep_p2 : GoodIn wsL_law (wsX9_bestStep_r3) := goodIn_r _ [345, 346, 347, 348, 349, 350, 383, 384, 385, 386] (by decide +kernel) (by decide +kernel)
set_option maxRecDepth 20000 in
theorem ggL_law_X9_bestStep_t0 : GoodIn wsL_law (wsX00) := goodIn_r _ [1092, 1093, 1094, 1095, 1096, 1097, 1098, 1099, 1100] (by decide +kernel) (by decide +kernel)
set_option maxRecDepth 20000 in
theorem ggL_law_X9_bestStep_t1 : GoodIn wsL_law (wsX90) := goodIn_r _ [1054, 1055, 1056] (by decide +kernel) (by decide +kernel)
set_option maxRecDepth 20000 in
theorem ggL_law_X9_bestStep_t2 : GoodIn wsL_law (wsX30) := goodIn_r _ [1072, 1073, 1074, 1075] (by decide +kernel) (by decide +kernel)
set_option maxRecDepth 20000 in
theorem ggL_law_X9_bestStep_t3 : GoodIn wsL_law (wsX80) := goodIn_r _ [1089, 1090, 1091] (by decide +kernel) (by decide +kernel)
set_option maxRecDepth 20000 in
theorem ggL_law_X9_bestStep_t4 : GoodIn wsL_law (wsX70) := goodIn_r _ [1101, 1102, 1103] (by decide +kernel) (by decide +kernel)
set_option maxRecDepth 20000 in
theorem ggL_law_X9_bestStep_t5 : GoodIn wsL_law (wsX40) := goodIn_r _ [1104, 1105] (by decide +kernel) (by decide +kernel)
theorem ggL_law_X9_bestStep : GoodIn wsL_law wsX9_bestStep := (goodIn_ca (goodIn_ca (goodIn_ca (goodIn_ca (goodIn_ca (goodIn_ca (goodIn_ca ggL_law_X9_bestStep_p0 (goodIn_app ggL_law_X9_bestStep_p1 ggL_law_X9_bestStep_p2)) ggL_law_X9_bestStep_t0) ggL_law_X9_bestStep_t1) ggL_law_X9_bestStep_t2) ggL_law_X9_bestStep_t3) ggL_law_X9_bestStep_t4) ggL_law_X9_bestStep_t5)
set_option maxRecDepth 20000 in
theorem gL_law_X9_bestStep : GoodIn wsL_law (wsV RL 131 RX9 yX9_bestStep wsX9_bestStep) := goodIn_app (goodIn_of _ (by decide +kernel)) ggL_law_X9_bestStep
set_option maxRecDepth 20000 in
theorem ggL_law_X10_bestStep : GoodIn wsL_law wsX10_bestStep := goodIn_r _ [961, 204, 419, 205, 206, 5, 207, 208, 209, 210, 942, 943, 944, 945, 98, 408, 409, 410, 411, 412, 413, 414, 1057, 1058, 1059, 1060, 1061, 1062, 1063, 1064, 1065, 1066, 1067, 1068, 1069, 1070, 1071] (by decide +kernel) (by decide +kernel)
set_option maxRecDepth 20000 in
theorem gL_law_X10_bestStep : GoodIn wsL_law (wsV RL 134 RX10 yX10_bestStep wsX10_bestStep) := goodIn_app (goodIn_of _ (by decide +kernel)) ggL_law_X10_bestStep
set_option maxRecDepth 20000 in
theorem ggL_law_X9_mixed_p0 : GoodIn wsL_law (.code yX9_mixed cX9_mixed 7 (some .int) :: wsX9_mixed_r1) := goodIn_r _ [965, 180, 897, 898, 155, 156, 157, 2, 158, 15, 159, 160, 858, 169, 170, 40, 171, 50, 172, 173, 859, 966, 967, 968, 53] (by decide +kernel) (by decide +kernel)
set_option maxRecDepth 20000 in
theorem ggL_law_X9_mixed_p1 : GoodIn wsL_law (wsX9_mixed_r2) := goodIn_r _ [969, 355, 970, 971, 972, 973, 68, 375, 376, 377, 378, 67, 383, 384, 385, 61, 386, 72, 73, 363, 364, 365, 366, 379] (by decide +kernel) (by decide +kernel)
set_option maxRecDepth 20000 in
theorem ggL_law_X9_mixed_p2 : GoodIn wsL_law (wsX9_mixed_r3) := goodIn_r _ [380, 381, 382, 367, 368, 369, 370] (by decide +kernel) (by decide +kernel)
set_option maxRecDepth 20000 in
theorem ggL_law_X9_mixed_t0 : GoodIn wsL_law (wsX00) := goodIn_r _ [1092, 1093, 1094, 1095, 1096, 1097, 1098, 1099, 1100] (by decide +kernel) (by decide +kernel)
set_option maxRecDepth 20000 in
theorem ggL_law_X9_mixed_t1 : GoodIn wsL_law (wsX90) := goodIn_r _ [1054, 1055, 1056] (by decide +kernel) (by decide +kernel)
set_option maxRecDepth 20000 in
theorem ggL_law_X9_mixed_t2 : GoodIn wsL_law (wsX30) := goodIn_r _ [1072, 1073, 1074, 1075] (by decide +kernel) (by decide +kernel)
set_option maxRecDepth 20000 in
theorem ggL_law_X9_mixed_t3 : GoodIn wsL_law (wsX80) := goodIn_r _ [1089, 1090, 1091] (by decide +kernel) (by decide +kernel)
set_option maxRecDepth 20000 in
theorem ggL_law_X9_mixed_t4 : GoodIn wsL_law (wsX70) := goodIn_r _ [1101, 1102, 1103] (by decide +kernel) (by decide +kernel)
set_option maxRecDepth 20000 in
theorem ggL_law_X9_mixed_t5 : GoodIn wsL_law (wsX40) := goodIn_r _ [1104, 1105] (by decide +kernel) (by decide +kernel)
theorem ggL_law_X9_mixed : GoodIn wsL_law wsX9_mixed := (goodIn_ca (goodIn_ca (goodIn_ca (goodIn_ca (goodIn_ca (goodIn_ca (goodIn_ca ggL_law_X9_mixed_p0 (goodIn_app ggL_law_X9_mixed_p1 ggL_law_X9_mixed_p2)) ggL_law_X9_mixed_t0) ggL_law_X9_mixed_t1) ggL_law_X9_mixed_t2) ggL_law_X9_mixed_t3) ggL_law_X9_mixed_t4) ggL_law_X9_mixed_t5)
set_option maxRecDepth 20000 in
theorem gL_law_X9_mixed : GoodIn wsL_law (wsV RL 135 RX9 yX9_mixed wsX9_mixed) := goodIn_app (goodIn_of _ (by decide +kernel)) ggL_law_X9_mixed
set_option maxRecDepth 20000 in
theorem ggL_law_X10_mixed : GoodIn wsL_law wsX10_mixed := goodIn_r _ [977, 905, 204, 419, 205, 206, 5, 207, 208, 209, 210, 978, 979, 980, 981, 98, 431, 432, 433, 434, 412, 413, 414, 426, 427, 428, 429, 430, 1057, 1058, 1059, 1060, 1061, 1062, 1063, 1064, 1065, 1066, 1067, 1068, 1069, 1070, 1071] (by decide +kernel) (by decide +kernel)
set_option maxRecDepth 20000 in
theorem gL_law_X10_mixed : GoodIn wsL_law (wsV RL 138 RX10 yX10_mixed wsX10_mixed) := goodIn_app (goodIn_of _ (by decide +kernel)) ggL_law_X10_mixed
set_option maxRecDepth 20000 in
theorem ggL_law_X9_would_p0 : GoodIn wsL_law (.code yX9_would cX9_would 2 (some .int) :: wsX9_would_r1) := goodIn_r _ [985, 180, 859, 172, 2, 173, 155, 156, 157, 158, 15, 159, 160, 986, 987, 988, 40, 989, 482, 56, 443, 446, 990, 54, 447] (by decide +kernel) (by decide +kernel)
set_option maxRecDepth 20000 in
theorem ggL_law_X9_would_p1 : GoodIn wsL_law (wsX9_would_r2) := goodIn_r _ [448, 168, 169, 170, 171, 50, 351, 352, 353, 53, 354, 355, 356, 357, 232, 233, 234, 358, 236, 237, 359, 360, 361, 362] (by decide +kernel) (by decide +kernel)
set_option maxRecDepth 20000 in
theorem ggL_law_X9_would_p2 : GoodIn wsL_law (wsX9_would_r3) := goodIn_r _ [68, 363, 364, 365, 61, 366, 72, 73, 367, 368, 369, 370, 67, 345, 346, 347, 348, 349, 350, 371, 372, 373, 374, 375] (by decide +kernel) (by decide +kernel)
set_option maxRecDepth 20000 in
theorem ggL_law_X9_would_p3 : GoodIn wsL_law (wsX9_would_r4) := goodIn_r _ [376, 377, 378, 379, 380, 381, 382, 383, 384, 385, 386, 387, 388, 389, 390] (by decide +kernel) (by decide +kernel)
