set_option maxRecDepth 20000 in
theorem ggL_law_X9_run_t1 : GoodIn wsL_law (wsX30) := goodIn_r _ [1072, 1073, 1074, 1075] (by decide +kernel) (by decide +kernel)
set_option maxRecDepth 20000 in
theorem ggL_law_X9_run_t2 : GoodIn wsL_law (wsX80) := goodIn_r _ [1089, 1090, 1091] (by decide +kernel) (by decide +kernel)
set_option maxRecDepth 20000 in
theorem ggL_law_X9_run_t3 : GoodIn wsL_law (wsX00) := goodIn_r _ [1092, 1093, 1094, 1095, 1096, 1097, 1098, 1099, 1100] (by decide +kernel) (by decide +kernel)
set_option maxRecDepth 20000 in
theorem ggL_law_X9_run_t4 : GoodIn wsL_law (wsX40) := goodIn_r _ [1104, 1105] (by decide +kernel) (by decide +kernel)
set_option maxRecDepth 20000 in
theorem ggL_law_X9_run_t5 : GoodIn wsL_law (wsX10) := goodIn_r _ [1106, 1107, 1108, 1109, 1110, 1111] (by decide +kernel) (by decide +kernel)
set_option maxRecDepth 20000 in
theorem ggL_law_X9_run_t6 : GoodIn wsL_law (wsX50) := goodIn_r _ [1082, 1083, 1084, 1085, 1086, 1087, 1088] (by decide +kernel) (by decide +kernel)
set_option maxRecDepth 20000 in
theorem ggL_law_X9_run_t7 : GoodIn wsL_law (wsX70) := goodIn_r _ [1101, 1102, 1103] (by decide +kernel) (by decide +kernel)
set_option maxRecDepth 20000 in
theorem ggL_law_X9_run_t8 : GoodIn wsL_law (wsX60) := goodIn_r _ [1076, 1077, 1078, 1079, 1080, 1081] (by decide +kernel) (by decide +kernel)
set_option maxRecDepth 20000 in
theorem ggL_law_X9_run_t9 : GoodIn wsL_law (wsX20) := goodIn_r _ [1112, 1113, 1114, 1115] (by decide +kernel) (by decide +kernel)
theorem ggL_law_X9_run : GoodIn wsL_law wsX9_run := (goodIn_ca (goodIn_ca (goodIn_ca (goodIn_ca (goodIn_ca (goodIn_ca (goodIn_ca (goodIn_ca (goodIn_ca (goodIn_ca (goodIn_ca ggL_law_X9_run_p0 (goodIn_app ggL_law_X9_run_p1 (goodIn_app ggL_law_X9_run_p2 (goodIn_app ggL_law_X9_run_p3 (goodIn_app ggL_law_X9_run_p4 (goodIn_app ggL_law_X9_run_p5 (goodIn_app ggL_law_X9_run_p6 (goodIn_app ggL_law_X9_run_p7 (goodIn_app ggL_law_X9_run_p8 (goodIn_app ggL_law_X9_run_p9 (goodIn_app ggL_law_X9_run_p10 (goodIn_app ggL_law_X9_run_p11 (goodIn_app ggL_law_X9_run_p12 (goodIn_app ggL_law_X9_run_p13 (goodIn_app ggL_law_X9_run_p14 ggL_law_X9_run_p15))))))))))))))) ggL_law_X9_run_t0) ggL_law_X9_run_t1) ggL_law_X9_run_t2) ggL_law_X9_run_t3) ggL_law_X9_run_t4) ggL_law_X9_run_t5) ggL_law_X9_run_t6) ggL_law_X9_run_t7) ggL_law_X9_run_t8) ggL_law_X9_run_t9)
set_option maxRecDepth 20000 in
theorem gL_law_X9_run : GoodIn wsL_law (wsV RL 91 RX9 yX9_run wsX9_run) := goodIn_app (goodIn_of _ (by decide +kernel)) ggL_law_X9_run
set_option maxRecDepth 20000 in
theorem ggL_law_X10_run_p0 : GoodIn wsL_law (.code yX10_run cX10_run 5 (some .int) :: wsX10_run_r1) := goodIn_r _ [764, 100, 98, 765, 766, 767, 419, 204, 621, 768, 769, 770, 5, 771, 102, 772, 773, 774, 775, 208, 209, 210, 776, 777, 778] (by decide +kernel) (by decide +kernel)
set_option maxRecDepth 20000 in
theorem ggL_law_X10_run_p1 : GoodIn wsL_law (wsX10_run_r2) := goodIn_r _ [779, 780, 781, 782, 783, 784, 785, 786, 104, 787, 788, 789, 790, 791, 792, 793, 794, 795, 796, 797, 798, 799, 103, 800] (by decide +kernel) (by decide +kernel)
set_option maxRecDepth 20000 in
theorem ggL_law_X10_run_p2 : GoodIn wsL_law (wsX10_run_r3) := goodIn_r _ [801, 802, 803, 200, 201, 202, 203, 205, 206, 207, 242, 243, 244, 245, 258, 259, 260, 261, 303, 304, 305, 306, 307, 491] (by decide +kernel) (by decide +kernel)
set_option maxRecDepth 20000 in
theorem ggL_law_X10_run_p3 : GoodIn wsL_law (wsX10_run_r4) := goodIn_r _ [492, 493, 494, 495, 404, 405, 406, 407, 325, 326, 327, 328, 408, 409, 410, 411, 412, 413, 414, 415, 416, 417, 418, 420] (by decide +kernel) (by decide +kernel)
set_option maxRecDepth 20000 in
theorem ggL_law_X10_run_p4 : GoodIn wsL_law (wsX10_run_r5) := goodIn_r _ [421, 422, 423, 424, 425, 426, 427, 428, 429, 430, 431, 432, 433, 434, 466, 467, 468, 469, 470, 329, 330, 331, 332, 471] (by decide +kernel) (by decide +kernel)
set_option maxRecDepth 20000 in
theorem ggL_law_X10_run_p5 : GoodIn wsL_law (wsX10_run_r6) := goodIn_r _ [472, 473, 551, 552, 553, 554, 513, 514, 515, 516, 517, 518, 519, 520, 555, 556, 557, 558, 215, 216, 217, 218, 219, 101] (by decide +kernel) (by decide +kernel)
set_option maxRecDepth 20000 in
theorem ggL_law_X10_run_t0 : GoodIn wsL_law (wsX100) := goodIn_r _ [1057, 1058, 1059, 1060, 1061, 1062, 1063, 1064, 1065, 1066, 1067, 1068, 1069, 1070, 1071] (by decide +kernel) (by decide +kernel)
theorem ggL_law_X10_run : GoodIn wsL_law wsX10_run := (goodIn_ca (goodIn_ca ggL_law_X10_run_p0 (goodIn_app ggL_law_X10_run_p1 (goodIn_app ggL_law_X10_run_p2 (goodIn_app ggL_law_X10_run_p3 (goodIn_app ggL_law_X10_run_p4 ggL_law_X10_run_p5))))) ggL_law_X10_run_t0)
set_option maxRecDepth 20000 in
theorem gL_law_X10_run : GoodIn wsL_law (wsV RL 94 RX10 yX10_run wsX10_run) := goodIn_app (goodIn_of _ (by decide +kernel)) ggL_law_X10_run
set_option maxRecDepth 20000 in
theorem ggL_law_X9_failure : GoodIn wsL_law wsX9_failure := goodIn_r _ [807, 19, 808, 809, 810, 811, 89, 812, 744, 743, 742, 739, 740, 741, 172, 2, 173, 1054, 1055, 1056, 1076, 1077, 1078, 1079, 1080, 1081, 1112, 1113, 1114, 1115] (by decide +kernel) (by decide +kernel)
set_option maxRecDepth 20000 in
theorem gL_law_X9_failure : GoodIn wsL_law (wsV RL 95 RX9 yX9_failure wsX9_failure) := goodIn_app (goodIn_of _ (by decide +kernel)) ggL_law_X9_failure
set_option maxRecDepth 20000 in
theorem ggL_law_X10_failure : GoodIn wsL_law wsX10_failure := goodIn_r _ [816, 204, 799, 103, 419, 208, 209, 5, 210, 1057, 1058, 1059, 1060, 1061, 1062, 1063, 1064, 1065, 1066, 1067, 1068, 1069, 1070, 1071] (by decide +kernel) (by decide +kernel)
set_option maxRecDepth 20000 in
theorem gL_law_X10_failure : GoodIn wsL_law (wsV RL 98 RX10 yX10_failure wsX10_failure) := goodIn_app (goodIn_of _ (by decide +kernel)) ggL_law_X10_failure
set_option maxRecDepth 20000 in
theorem ggL_law_X9_count_p0 : GoodIn wsL_law (.code yX9_count cX9_count 2 (some .int) :: wsX9_count_r1) := goodIn_r _ [820, 15, 159, 821, 19, 822, 823, 824, 825, 31, 826, 44, 155, 156, 157, 2, 158, 160, 827, 828, 829, 40, 830, 54, 228] (by decide +kernel) (by decide +kernel)
set_option maxRecDepth 20000 in
theorem ggL_law_X9_count_p1 : GoodIn wsL_law (wsX9_count_r2) := goodIn_r _ [229, 230, 123, 59, 121, 122, 124, 165, 831, 832, 833, 834, 56, 443, 835, 569, 570, 571, 316, 836, 837, 838, 839, 58] (by decide +kernel) (by decide +kernel)
set_option maxRecDepth 20000 in
theorem ggL_law_X9_count_p2 : GoodIn wsL_law (wsX9_count_r3) := goodIn_r _ [504] (by decide +kernel) (by decide +kernel)
set_option maxRecDepth 20000 in
theorem ggL_law_X9_count_t0 : GoodIn wsL_law (wsX90) := goodIn_r _ [1054, 1055, 1056] (by decide +kernel) (by decide +kernel)
set_option maxRecDepth 20000 in
theorem ggL_law_X9_count_t1 : GoodIn wsL_law (wsX30) := goodIn_r _ [1072, 1073, 1074, 1075] (by decide +kernel) (by decide +kernel)
set_option maxRecDepth 20000 in
theorem ggL_law_X9_count_t2 : GoodIn wsL_law (wsX60) := goodIn_r _ [1076, 1077, 1078, 1079, 1080, 1081] (by decide +kernel) (by decide +kernel)
set_option maxRecDepth 20000 in
theorem ggL_law_X9_count_t3 : GoodIn wsL_law (wsX80) := goodIn_r _ [1089, 1090, 1091] (by decide +kernel) (by decide +kernel)
set_option maxRecDepth 20000 in
theorem ggL_law_X9_count_t4 : GoodIn wsL_law (wsX00) := goodIn_r _ [1092, 1093, 1094, 1095, 1096, 1097, 1098, 1099, 1100] (by decide +kernel) (by decide +kernel)
set_option maxRecDepth 20000 in
theorem ggL_law_X9_count_t5 : GoodIn wsL_law (wsX70) := goodIn_r _ [1101, 1102, 1103] (by decide +kernel) (by decide +kernel)
set_option maxRecDepth 20000 in
theorem ggL_law_X9_count_t6 : GoodIn wsL_law (wsX10) := goodIn_r _ [1106, 1107, 1108, 1109, 1110, 1111] (by decide +kernel) (by decide +kernel)
set_option maxRecDepth 20000 in
theorem ggL_law_X9_count_t7 : GoodIn wsL_law (wsX50) := goodIn_r _ [1082, 1083, 1084, 1085, 1086, 1087, 1088] (by decide +kernel) (by decide +kernel)
theorem ggL_law_X9_count : GoodIn wsL_law wsX9_count := (goodIn_ca (goodIn_ca (goodIn_ca (goodIn_ca (goodIn_ca (goodIn_ca (goodIn_ca (goodIn_ca (goodIn_ca ggL_law_X9_count_p0 (goodIn_app ggL_law_X9_count_p1 ggL_law_X9_count_p2)) ggL_law_X9_count_t0) ggL_law_X9_count_t1) ggL_law_X9_count_t2) ggL_law_X9_count_t3) ggL_law_X9_count_t4) ggL_law_X9_count_t5) ggL_law_X9_count_t6) ggL_law_X9_count_t7)
set_option maxRecDepth 20000 in
theorem gL_law_X9_count : GoodIn wsL_law (wsV RL 99 RX9 yX9_count wsX9_count) := goodIn_app (goodIn_of _ (by decide +kernel)) ggL_law_X9_count
set_option maxRecDepth 20000 in
theorem ggL_law_X10_count : GoodIn wsL_law wsX10_count := goodIn_r _ [843, 98, 219, 621, 204, 844, 845, 846, 5, 847, 329, 330, 331, 332, 576, 577, 578, 579, 848, 849, 850, 851, 517, 518, 519, 520, 1057, 1058, 1059, 1060, 1061, 1062, 1063, 1064, 1065, 1066, 1067, 1068, 1069, 1070, 1071] (by decide +kernel) (by decide +kernel)
set_option maxRecDepth 20000 in
theorem gL_law_X10_count : GoodIn wsL_law (wsV RL 102 RX10 yX10_count wsX10_count) := goodIn_app (goodIn_of _ (by decide +kernel)) ggL_law_X10_count
set_option maxRecDepth 20000 in
theorem ggL_law_X9_kind : GoodIn wsL_law wsX9_kind := goodIn_r _ [855, 180, 856, 857, 155, 156, 157, 2, 158, 15, 159, 160, 858, 169, 170, 40, 171, 50, 172, 173, 859, 1104, 1105, 1054, 1055, 1056, 1072, 1073, 1074, 1075, 1089, 1090, 1091, 1092, 1093, 1094, 1095, 1096, 1097, 1098, 1099, 1100] (by decide +kernel) (by decide +kernel)
set_option maxRecDepth 20000 in
theorem gL_law_X9_kind : GoodIn wsL_law (wsV RL 103 RX9 yX9_kind wsX9_kind) := goodIn_app (goodIn_of _ (by decide +kernel)) ggL_law_X9_kind
