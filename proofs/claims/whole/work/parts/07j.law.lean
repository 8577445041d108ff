set_option maxRecDepth 20000 in
theorem ggL_law_X10_kind : GoodIn wsL_law wsX10_kind := goodIn_r _ [863, 98, 204, 205, 206, 5, 207, 208, 209, 210, 1057, 1058, 1059, 1060, 1061, 1062, 1063, 1064, 1065, 1066, 1067, 1068, 1069, 1070, 1071] (by decide +kernel) (by decide +kernel)
set_option maxRecDepth 20000 in
theorem gL_law_X10_kind : GoodIn wsL_law (wsV RL 106 RX10 yX10_kind wsX10_kind) := goodIn_app (goodIn_of _ (by decide +kernel)) ggL_law_X10_kind
set_option maxRecDepth 20000 in
theorem ggL_law_X9_customer : GoodIn wsL_law wsX9_customer := goodIn_r _ [867, 180, 155, 156, 157, 2, 158, 15, 159, 160, 868, 318, 319, 40, 320, 121, 56, 172, 173, 869, 870, 871, 63, 872, 873, 133, 134, 874, 135, 136, 137, 138, 1054, 1055, 1056, 1072, 1073, 1074, 1075, 1089, 1090, 1091, 1092, 1093, 1094, 1095, 1096, 1097, 1098, 1099, 1100, 1106, 1107, 1108, 1109, 1110, 1111] (by decide +kernel) (by decide +kernel)
set_option maxRecDepth 20000 in
theorem gL_law_X9_customer : GoodIn wsL_law (wsV RL 107 RX9 yX9_customer wsX9_customer) := goodIn_app (goodIn_of _ (by decide +kernel)) ggL_law_X9_customer
set_option maxRecDepth 20000 in
theorem ggL_law_X10_customer : GoodIn wsL_law wsX10_customer := goodIn_r _ [878, 204, 419, 325, 326, 327, 5, 328, 98, 208, 209, 210, 329, 330, 331, 332, 1057, 1058, 1059, 1060, 1061, 1062, 1063, 1064, 1065, 1066, 1067, 1068, 1069, 1070, 1071] (by decide +kernel) (by decide +kernel)
set_option maxRecDepth 20000 in
theorem gL_law_X10_customer : GoodIn wsL_law (wsV RL 110 RX10 yX10_customer wsX10_customer) := goodIn_app (goodIn_of _ (by decide +kernel)) ggL_law_X10_customer
set_option maxRecDepth 20000 in
theorem ggL_law_X9_prize : GoodIn wsL_law wsX9_prize := goodIn_r _ [882, 180, 155, 156, 157, 2, 158, 15, 159, 160, 883, 506, 507, 40, 508, 122, 58, 172, 173, 884, 885, 886, 22, 887, 143, 144, 145, 146, 147, 148, 149, 888, 1054, 1055, 1056, 1072, 1073, 1074, 1075, 1089, 1090, 1091, 1092, 1093, 1094, 1095, 1096, 1097, 1098, 1099, 1100, 1082, 1083, 1084, 1085, 1086, 1087, 1088] (by decide +kernel) (by decide +kernel)
set_option maxRecDepth 20000 in
theorem gL_law_X9_prize : GoodIn wsL_law (wsV RL 111 RX9 yX9_prize wsX9_prize) := goodIn_app (goodIn_of _ (by decide +kernel)) ggL_law_X9_prize
set_option maxRecDepth 20000 in
theorem ggL_law_X10_prize : GoodIn wsL_law wsX10_prize := goodIn_r _ [892, 204, 513, 514, 515, 5, 516, 98, 208, 209, 210, 517, 518, 519, 520, 1057, 1058, 1059, 1060, 1061, 1062, 1063, 1064, 1065, 1066, 1067, 1068, 1069, 1070, 1071] (by decide +kernel) (by decide +kernel)
set_option maxRecDepth 20000 in
theorem gL_law_X10_prize : GoodIn wsL_law (wsV RL 114 RX10 yX10_prize wsX10_prize) := goodIn_app (goodIn_of _ (by decide +kernel)) ggL_law_X10_prize
set_option maxRecDepth 20000 in
theorem ggL_law_X9_read : GoodIn wsL_law wsX9_read := goodIn_r _ [896, 897, 180, 898, 899, 859, 172, 2, 173, 155, 156, 157, 158, 15, 159, 160, 900, 341, 342, 343, 236, 233, 237, 344, 345, 346, 347, 348, 349, 350, 1092, 1093, 1094, 1095, 1096, 1097, 1098, 1099, 1100, 1101, 1102, 1103, 1054, 1055, 1056, 1072, 1073, 1074, 1075, 1089, 1090, 1091] (by decide +kernel) (by decide +kernel)
set_option maxRecDepth 20000 in
theorem gL_law_X9_read : GoodIn wsL_law (wsV RL 115 RX9 yX9_read wsX9_read) := goodIn_app (goodIn_of _ (by decide +kernel)) ggL_law_X9_read
set_option maxRecDepth 20000 in
theorem ggL_law_X10_read : GoodIn wsL_law wsX10_read := goodIn_r _ [904, 905, 98, 204, 208, 209, 5, 210, 408, 409, 410, 411, 412, 413, 414, 1057, 1058, 1059, 1060, 1061, 1062, 1063, 1064, 1065, 1066, 1067, 1068, 1069, 1070, 1071] (by decide +kernel) (by decide +kernel)
set_option maxRecDepth 20000 in
theorem gL_law_X10_read : GoodIn wsL_law (wsV RL 118 RX10 yX10_read wsX10_read) := goodIn_app (goodIn_of _ (by decide +kernel)) ggL_law_X10_read
set_option maxRecDepth 20000 in
theorem ggL_law_X9_allowed_p0 : GoodIn wsL_law (.code yX9_allowed cX9_allowed 7 (some .int) :: wsX9_allowed_r1) := goodIn_r _ [909, 897, 180, 898, 910, 155, 156, 157, 2, 158, 15, 159, 160, 858, 169, 170, 40, 171, 50, 172, 173, 859, 911, 360, 361] (by decide +kernel) (by decide +kernel)
set_option maxRecDepth 20000 in
theorem ggL_law_X9_allowed_p1 : GoodIn wsL_law (wsX9_allowed_r2) := goodIn_r _ [53, 362, 68, 358, 236, 233, 237, 363, 364, 365, 61, 366, 72, 73, 367, 368, 369, 370, 67, 345, 346, 347, 348, 349] (by decide +kernel) (by decide +kernel)
set_option maxRecDepth 20000 in
theorem ggL_law_X9_allowed_p2 : GoodIn wsL_law (wsX9_allowed_r3) := goodIn_r _ [350, 912, 372, 373, 374, 375, 376, 377, 378, 379, 380, 381, 382, 383, 384, 385, 386] (by decide +kernel) (by decide +kernel)
set_option maxRecDepth 20000 in
theorem ggL_law_X9_allowed_t0 : GoodIn wsL_law (wsX00) := goodIn_r _ [1092, 1093, 1094, 1095, 1096, 1097, 1098, 1099, 1100] (by decide +kernel) (by decide +kernel)
set_option maxRecDepth 20000 in
theorem ggL_law_X9_allowed_t1 : GoodIn wsL_law (wsX90) := goodIn_r _ [1054, 1055, 1056] (by decide +kernel) (by decide +kernel)
set_option maxRecDepth 20000 in
theorem ggL_law_X9_allowed_t2 : GoodIn wsL_law (wsX30) := goodIn_r _ [1072, 1073, 1074, 1075] (by decide +kernel) (by decide +kernel)
set_option maxRecDepth 20000 in
theorem ggL_law_X9_allowed_t3 : GoodIn wsL_law (wsX80) := goodIn_r _ [1089, 1090, 1091] (by decide +kernel) (by decide +kernel)
set_option maxRecDepth 20000 in
theorem ggL_law_X9_allowed_t4 : GoodIn wsL_law (wsX70) := goodIn_r _ [1101, 1102, 1103] (by decide +kernel) (by decide +kernel)
set_option maxRecDepth 20000 in
theorem ggL_law_X9_allowed_t5 : GoodIn wsL_law (wsX40) := goodIn_r _ [1104, 1105] (by decide +kernel) (by decide +kernel)
theorem ggL_law_X9_allowed : GoodIn wsL_law wsX9_allowed := (goodIn_ca (goodIn_ca (goodIn_ca (goodIn_ca (goodIn_ca (goodIn_ca (goodIn_ca ggL_law_X9_allowed_p0 (goodIn_app ggL_law_X9_allowed_p1 ggL_law_X9_allowed_p2)) ggL_law_X9_allowed_t0) ggL_law_X9_allowed_t1) ggL_law_X9_allowed_t2) ggL_law_X9_allowed_t3) ggL_law_X9_allowed_t4) ggL_law_X9_allowed_t5)
set_option maxRecDepth 20000 in
theorem gL_law_X9_allowed : GoodIn wsL_law (wsV RL 119 RX9 yX9_allowed wsX9_allowed) := goodIn_app (goodIn_of _ (by decide +kernel)) ggL_law_X9_allowed
set_option maxRecDepth 20000 in
theorem ggL_law_X10_allowed : GoodIn wsL_law wsX10_allowed := goodIn_r _ [916, 905, 204, 419, 420, 421, 208, 209, 5, 210, 205, 206, 207, 422, 423, 424, 425, 98, 426, 427, 428, 429, 430, 412, 413, 414, 431, 432, 433, 434, 1057, 1058, 1059, 1060, 1061, 1062, 1063, 1064, 1065, 1066, 1067, 1068, 1069, 1070, 1071] (by decide +kernel) (by decide +kernel)
set_option maxRecDepth 20000 in
theorem gL_law_X10_allowed : GoodIn wsL_law (wsV RL 122 RX10 yX10_allowed wsX10_allowed) := goodIn_app (goodIn_of _ (by decide +kernel)) ggL_law_X10_allowed
set_option maxRecDepth 20000 in
theorem ggL_law_X9_guess_p0 : GoodIn wsL_law (.code yX9_guess cX9_guess 5 (some .int) :: wsX9_guess_r1) := goodIn_r _ [920, 897, 180, 898, 155, 156, 157, 2, 158, 15, 159, 160, 858, 169, 170, 40, 171, 50, 172, 173, 859, 921, 352, 353, 53] (by decide +kernel) (by decide +kernel)
set_option maxRecDepth 20000 in
theorem ggL_law_X9_guess_p1 : GoodIn wsL_law (wsX9_guess_r2) := goodIn_r _ [354, 355, 356, 357, 232, 233, 234, 358, 236, 237, 359, 360, 361, 362, 68, 363, 364, 365, 61, 366, 72, 73, 367, 368] (by decide +kernel) (by decide +kernel)
set_option maxRecDepth 20000 in
theorem ggL_law_X9_guess_p2 : GoodIn wsL_law (wsX9_guess_r3) := goodIn_r _ [369, 370, 67, 345, 346, 347, 348, 349, 350, 371, 372, 373, 374, 375, 376, 377, 378, 379, 380, 381, 382, 383, 384, 385] (by decide +kernel) (by decide +kernel)
set_option maxRecDepth 20000 in
theorem ggL_law_X9_guess_p3 : GoodIn wsL_law (wsX9_guess_r4) := goodIn_r _ [386, 387, 388, 389, 390] (by decide +kernel) (by decide +kernel)
set_option maxRecDepth 20000 in
theorem ggL_law_X9_guess_t0 : GoodIn wsL_law (wsX00) := goodIn_r _ [1092, 1093, 1094, 1095, 1096, 1097, 1098, 1099, 1100] (by decide +kernel) (by decide +kernel)
set_option maxRecDepth 20000 in
theorem ggL_law_X9_guess_t1 : GoodIn wsL_law (wsX90) := goodIn_r _ [1054, 1055, 1056] (by decide +kernel) (by decide +kernel)
set_option maxRecDepth 20000 in
theorem ggL_law_X9_guess_t2 : GoodIn wsL_law (wsX30) := goodIn_r _ [1072, 1073, 1074, 1075] (by decide +kernel) (by decide +kernel)
set_option maxRecDepth 20000 in
theorem ggL_law_X9_guess_t3 : GoodIn wsL_law (wsX80) := goodIn_r _ [1089, 1090, 1091] (by decide +kernel) (by decide +kernel)
set_option maxRecDepth 20000 in
theorem ggL_law_X9_guess_t4 : GoodIn wsL_law (wsX40) := goodIn_r _ [1104, 1105] (by decide +kernel) (by decide +kernel)
set_option maxRecDepth 20000 in
theorem ggL_law_X9_guess_t5 : GoodIn wsL_law (wsX70) := goodIn_r _ [1101, 1102, 1103] (by decide +kernel) (by decide +kernel)
theorem ggL_law_X9_guess : GoodIn wsL_law wsX9_guess := (goodIn_ca (goodIn_ca (goodIn_ca (goodIn_ca (goodIn_ca (goodIn_ca (goodIn_ca ggL_law_X9_guess_p0 (goodIn_app ggL_law_X9_guess_p1 (goodIn_app ggL_law_X9_guess_p2 ggL_law_X9_guess_p3))) ggL_law_X9_guess_t0) ggL_law_X9_guess_t1) ggL_law_X9_guess_t2) ggL_law_X9_guess_t3) ggL_law_X9_guess_t4) ggL_law_X9_guess_t5)
set_option maxRecDepth 20000 in
theorem gL_law_X9_guess : GoodIn wsL_law (wsV RL 123 RX9 yX9_guess wsX9_guess) := goodIn_app (goodIn_of _ (by decide +kernel)) ggL_law_X9_guess
set_option maxRecDepth 20000 in
theorem ggL_law_X10_guess : GoodIn wsL_law wsX10_guess := goodIn_r _ [925, 905, 204, 208, 209, 5, 210, 205, 206, 207, 415, 416, 417, 418, 419, 420, 421, 98, 422, 423, 424, 425, 426, 427, 428, 429, 430, 412, 413, 414, 431, 432, 433, 434, 1057, 1058, 1059, 1060, 1061, 1062, 1063, 1064, 1065, 1066, 1067, 1068, 1069, 1070, 1071] (by decide +kernel) (by decide +kernel)
set_option maxRecDepth 20000 in
theorem gL_law_X10_guess : GoodIn wsL_law (wsV RL 126 RX10 yX10_guess wsX10_guess) := goodIn_app (goodIn_of _ (by decide +kernel)) ggL_law_X10_guess
set_option maxRecDepth 20000 in
theorem ggL_law_X9_apartUpTo_p0 : GoodIn wsL_law (.code yX9_apartUpTo cX9_apartUpTo 3 (some .int) :: wsX9_apartUpTo_r1) := goodIn_r _ [929, 180, 898, 155, 156, 157, 2, 158, 15, 159, 160, 858, 169, 170, 40, 171, 50, 172, 173, 930, 931, 932, 53, 933, 67] (by decide +kernel) (by decide +kernel)
set_option maxRecDepth 20000 in
theorem ggL_law_X9_apartUpTo_p1 : GoodIn wsL_law (wsX9_apartUpTo_r2) := goodIn_r _ [934, 935, 936, 937, 68, 363, 364, 365, 61, 366, 72, 73, 341, 342, 343, 236, 233, 237, 344, 345, 346, 347, 348, 349] (by decide +kernel) (by decide +kernel)
set_option maxRecDepth 20000 in
theorem ggL_law_X9_apartUpTo_p2 : GoodIn wsL_law (wsX9_apartUpTo_r3) := goodIn_r _ [350, 383, 384, 385, 386] (by decide +kernel) (by decide +kernel)
