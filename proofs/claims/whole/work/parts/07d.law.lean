set_option maxRecDepth 20000 in
theorem ggL_law_X10_come : GoodIn wsL_law wsX10_come := goodIn_r _ [302, 196, 197, 198, 5, 199, 99, 98, 303, 304, 305, 306, 204, 307, 208, 209, 210, 211, 212, 213, 214, 215, 216, 217, 218, 219, 101, 1057, 1058, 1059, 1060, 1061, 1062, 1063, 1064, 1065, 1066, 1067, 1068, 1069, 1070, 1071] (by decide +kernel) (by decide +kernel)
set_option maxRecDepth 20000 in
theorem gL_law_X10_come : GoodIn wsL_law (wsV RL 39 RX10 yX10_come wsX10_come) := goodIn_app (goodIn_of _ (by decide +kernel)) ggL_law_X10_come
set_option maxRecDepth 20000 in
theorem ggL_law_X9_leave_p0 : GoodIn wsL_law (.code yX9_leave cX9_leave 2 (some .int) :: wsX9_leave_r1) := goodIn_r _ [311, 15, 109, 110, 111, 14, 112, 33, 32, 113, 114, 115, 31, 116, 41, 44, 42, 117, 118, 119, 40, 120, 50, 56, 58] (by decide +kernel) (by decide +kernel)
set_option maxRecDepth 20000 in
theorem ggL_law_X9_leave_p1 : GoodIn wsL_law (wsX9_leave_r2) := goodIn_r _ [54, 121, 122, 123, 59, 124, 125, 126, 127, 61, 128, 72, 73, 129, 130, 131, 63, 132, 133, 134, 135, 136, 137, 138] (by decide +kernel) (by decide +kernel)
set_option maxRecDepth 20000 in
theorem ggL_law_X9_leave_p2 : GoodIn wsL_law (wsX9_leave_r3) := goodIn_r _ [139, 140, 141, 22, 142, 143, 144, 145, 146, 147, 148, 149, 150, 151, 152, 53, 153, 67, 68, 154, 155, 156, 157, 2] (by decide +kernel) (by decide +kernel)
set_option maxRecDepth 20000 in
theorem ggL_law_X9_leave_p3 : GoodIn wsL_law (wsX9_leave_r4) := goodIn_r _ [158, 159, 160, 312, 313, 314, 315, 165, 316, 317, 318, 319, 320, 172, 173, 295, 296, 297, 298, 174, 175, 176, 177, 178] (by decide +kernel) (by decide +kernel)
set_option maxRecDepth 20000 in
theorem ggL_law_X9_leave_p4 : GoodIn wsL_law (wsX9_leave_r5) := goodIn_r _ [179, 180, 181, 182, 183, 184, 185, 186, 187, 29, 188, 189, 190, 191] (by decide +kernel) (by decide +kernel)
set_option maxRecDepth 20000 in
theorem ggL_law_X9_leave_t0 : GoodIn wsL_law (wsX90) := goodIn_r _ [1054, 1055, 1056] (by decide +kernel) (by decide +kernel)
set_option maxRecDepth 20000 in
theorem ggL_law_X9_leave_t1 : GoodIn wsL_law (wsX30) := goodIn_r _ [1072, 1073, 1074, 1075] (by decide +kernel) (by decide +kernel)
set_option maxRecDepth 20000 in
theorem ggL_law_X9_leave_t2 : GoodIn wsL_law (wsX80) := goodIn_r _ [1089, 1090, 1091] (by decide +kernel) (by decide +kernel)
set_option maxRecDepth 20000 in
theorem ggL_law_X9_leave_t3 : GoodIn wsL_law (wsX00) := goodIn_r _ [1092, 1093, 1094, 1095, 1096, 1097, 1098, 1099, 1100] (by decide +kernel) (by decide +kernel)
set_option maxRecDepth 20000 in
theorem ggL_law_X9_leave_t4 : GoodIn wsL_law (wsX40) := goodIn_r _ [1104, 1105] (by decide +kernel) (by decide +kernel)
set_option maxRecDepth 20000 in
theorem ggL_law_X9_leave_t5 : GoodIn wsL_law (wsX10) := goodIn_r _ [1106, 1107, 1108, 1109, 1110, 1111] (by decide +kernel) (by decide +kernel)
set_option maxRecDepth 20000 in
theorem ggL_law_X9_leave_t6 : GoodIn wsL_law (wsX50) := goodIn_r _ [1082, 1083, 1084, 1085, 1086, 1087, 1088] (by decide +kernel) (by decide +kernel)
set_option maxRecDepth 20000 in
theorem ggL_law_X9_leave_t7 : GoodIn wsL_law (wsX70) := goodIn_r _ [1101, 1102, 1103] (by decide +kernel) (by decide +kernel)
theorem ggL_law_X9_leave : GoodIn wsL_law wsX9_leave := (goodIn_ca (goodIn_ca (goodIn_ca (goodIn_ca (goodIn_ca (goodIn_ca (goodIn_ca (goodIn_ca (goodIn_ca ggL_law_X9_leave_p0 (goodIn_app ggL_law_X9_leave_p1 (goodIn_app ggL_law_X9_leave_p2 (goodIn_app ggL_law_X9_leave_p3 ggL_law_X9_leave_p4)))) ggL_law_X9_leave_t0) ggL_law_X9_leave_t1) ggL_law_X9_leave_t2) ggL_law_X9_leave_t3) ggL_law_X9_leave_t4) ggL_law_X9_leave_t5) ggL_law_X9_leave_t6) ggL_law_X9_leave_t7)
set_option maxRecDepth 20000 in
theorem gL_law_X9_leave : GoodIn wsL_law (wsV RL 40 RX9 yX9_leave wsX9_leave) := goodIn_app (goodIn_of _ (by decide +kernel)) ggL_law_X9_leave
set_option maxRecDepth 20000 in
theorem ggL_law_X10_leave : GoodIn wsL_law wsX10_leave := goodIn_r _ [324, 204, 98, 325, 326, 327, 5, 328, 208, 209, 210, 196, 197, 198, 199, 99, 329, 330, 331, 332, 211, 212, 213, 214, 215, 216, 217, 218, 219, 101, 1057, 1058, 1059, 1060, 1061, 1062, 1063, 1064, 1065, 1066, 1067, 1068, 1069, 1070, 1071] (by decide +kernel) (by decide +kernel)
set_option maxRecDepth 20000 in
theorem gL_law_X10_leave : GoodIn wsL_law (wsV RL 43 RX10 yX10_leave wsX10_leave) := goodIn_app (goodIn_of _ (by decide +kernel)) ggL_law_X10_leave
set_option maxRecDepth 20000 in
theorem ggL_law_X9_weigh_p0 : GoodIn wsL_law (.code yX9_weigh cX9_weigh 5 (some .int) :: wsX9_weigh_r1) := goodIn_r _ [336, 15, 109, 110, 111, 14, 112, 33, 32, 113, 114, 115, 31, 116, 41, 44, 42, 117, 118, 119, 40, 120, 50, 56, 58] (by decide +kernel) (by decide +kernel)
set_option maxRecDepth 20000 in
theorem ggL_law_X9_weigh_p1 : GoodIn wsL_law (wsX9_weigh_r2) := goodIn_r _ [54, 121, 122, 123, 59, 124, 125, 126, 127, 61, 128, 72, 73, 129, 130, 131, 63, 132, 133, 134, 135, 136, 137, 138] (by decide +kernel) (by decide +kernel)
set_option maxRecDepth 20000 in
theorem ggL_law_X9_weigh_p2 : GoodIn wsL_law (wsX9_weigh_r3) := goodIn_r _ [139, 140, 141, 22, 142, 143, 144, 145, 146, 147, 148, 149, 150, 151, 152, 53, 153, 67, 68, 154, 155, 156, 157, 2] (by decide +kernel) (by decide +kernel)
set_option maxRecDepth 20000 in
theorem ggL_law_X9_weigh_p3 : GoodIn wsL_law (wsX9_weigh_r4) := goodIn_r _ [158, 159, 160, 337, 338, 339, 340, 165, 167, 228, 166, 230, 317, 318, 319, 320, 172, 173, 168, 169, 170, 171, 341, 342] (by decide +kernel) (by decide +kernel)
set_option maxRecDepth 20000 in
theorem ggL_law_X9_weigh_p4 : GoodIn wsL_law (wsX9_weigh_r5) := goodIn_r _ [343, 236, 233, 237, 344, 345, 346, 347, 348, 349, 350, 351, 352, 353, 354, 355, 356, 357, 232, 234, 358, 359, 360, 361] (by decide +kernel) (by decide +kernel)
set_option maxRecDepth 20000 in
theorem ggL_law_X9_weigh_p5 : GoodIn wsL_law (wsX9_weigh_r6) := goodIn_r _ [362, 363, 364, 365, 366, 367, 368, 369, 370, 371, 372, 373, 374, 375, 376, 377, 378, 379, 380, 381, 382, 383, 384, 385] (by decide +kernel) (by decide +kernel)
set_option maxRecDepth 20000 in
theorem ggL_law_X9_weigh_p6 : GoodIn wsL_law (wsX9_weigh_r7) := goodIn_r _ [386, 387, 388, 389, 390, 391, 392, 393, 394, 395, 396, 397, 398, 399, 174, 175, 176, 177, 178, 179, 180, 181, 182, 183] (by decide +kernel) (by decide +kernel)
set_option maxRecDepth 20000 in
theorem ggL_law_X9_weigh_p7 : GoodIn wsL_law (wsX9_weigh_r8) := goodIn_r _ [184, 185, 186, 187, 29, 188, 189, 190, 191] (by decide +kernel) (by decide +kernel)
set_option maxRecDepth 20000 in
theorem ggL_law_X9_weigh_t0 : GoodIn wsL_law (wsX90) := goodIn_r _ [1054, 1055, 1056] (by decide +kernel) (by decide +kernel)
set_option maxRecDepth 20000 in
theorem ggL_law_X9_weigh_t1 : GoodIn wsL_law (wsX30) := goodIn_r _ [1072, 1073, 1074, 1075] (by decide +kernel) (by decide +kernel)
set_option maxRecDepth 20000 in
theorem ggL_law_X9_weigh_t2 : GoodIn wsL_law (wsX80) := goodIn_r _ [1089, 1090, 1091] (by decide +kernel) (by decide +kernel)
set_option maxRecDepth 20000 in
theorem ggL_law_X9_weigh_t3 : GoodIn wsL_law (wsX00) := goodIn_r _ [1092, 1093, 1094, 1095, 1096, 1097, 1098, 1099, 1100] (by decide +kernel) (by decide +kernel)
set_option maxRecDepth 20000 in
theorem ggL_law_X9_weigh_t4 : GoodIn wsL_law (wsX40) := goodIn_r _ [1104, 1105] (by decide +kernel) (by decide +kernel)
set_option maxRecDepth 20000 in
theorem ggL_law_X9_weigh_t5 : GoodIn wsL_law (wsX10) := goodIn_r _ [1106, 1107, 1108, 1109, 1110, 1111] (by decide +kernel) (by decide +kernel)
set_option maxRecDepth 20000 in
theorem ggL_law_X9_weigh_t6 : GoodIn wsL_law (wsX50) := goodIn_r _ [1082, 1083, 1084, 1085, 1086, 1087, 1088] (by decide +kernel) (by decide +kernel)
set_option maxRecDepth 20000 in
theorem ggL_law_X9_weigh_t7 : GoodIn wsL_law (wsX70) := goodIn_r _ [1101, 1102, 1103] (by decide +kernel) (by decide +kernel)
theorem ggL_law_X9_weigh : GoodIn wsL_law wsX9_weigh := (goodIn_ca (goodIn_ca (goodIn_ca (goodIn_ca (goodIn_ca (goodIn_ca (goodIn_ca (goodIn_ca (goodIn_ca ggL_law_X9_weigh_p0 (goodIn_app ggL_law_X9_weigh_p1 (goodIn_app ggL_law_X9_weigh_p2 (goodIn_app ggL_law_X9_weigh_p3 (goodIn_app ggL_law_X9_weigh_p4 (goodIn_app ggL_law_X9_weigh_p5 (goodIn_app ggL_law_X9_weigh_p6 ggL_law_X9_weigh_p7))))))) ggL_law_X9_weigh_t0) ggL_law_X9_weigh_t1) ggL_law_X9_weigh_t2) ggL_law_X9_weigh_t3) ggL_law_X9_weigh_t4) ggL_law_X9_weigh_t5) ggL_law_X9_weigh_t6) ggL_law_X9_weigh_t7)
set_option maxRecDepth 20000 in
theorem gL_law_X9_weigh : GoodIn wsL_law (wsV RL 44 RX9 yX9_weigh wsX9_weigh) := goodIn_app (goodIn_of _ (by decide +kernel)) ggL_law_X9_weigh
set_option maxRecDepth 20000 in
theorem ggL_law_X10_weigh_p0 : GoodIn wsL_law (.code yX10_weigh cX10_weigh 5 (some .int) :: wsX10_weigh_r1) := goodIn_r _ [403, 196, 197, 198, 5, 199, 99, 98, 404, 405, 406, 407, 204, 325, 326, 327, 328, 208, 209, 210, 205, 206, 207, 408, 409] (by decide +kernel) (by decide +kernel)
set_option maxRecDepth 20000 in
theorem ggL_law_X10_weigh_p1 : GoodIn wsL_law (wsX10_weigh_r2) := goodIn_r _ [410, 411, 412, 413, 414, 415, 416, 417, 418, 419, 420, 421, 422, 423, 424, 425, 426, 427, 428, 429, 430, 431, 432, 433] (by decide +kernel) (by decide +kernel)
