set_option maxRecDepth 20000 in
theorem ggL_law_X9_init : GoodIn wsL_law wsX9_init := goodIn_r _ [8, 9, 10, 11, 12, 13, 14, 15, 16, 17, 18, 19, 20, 21, 22, 23, 24, 25, 26, 27, 28, 29, 30, 31, 32, 33, 34, 35, 36, 37, 38, 39, 40, 41, 42, 43, 44, 45, 46, 47, 48, 49, 50, 51, 52, 53, 54, 55, 56, 57, 58, 59, 60, 61, 62, 63, 64, 65, 66, 67, 68, 69, 70, 71, 72, 73, 74, 75, 76, 77, 78, 79, 80, 81, 82, 83, 84, 85, 86, 87, 88, 89, 90, 91, 92, 93, 1075, 1076, 1077, 1078, 1057, 1058, 1059, 1079, 1080, 1081, 1082, 1083, 1084, 1085, 1086, 1087, 1088, 1089, 1090, 1091, 1092, 1093, 1094, 1095, 1096, 1097, 1098, 1099, 1100, 1101, 1102, 1103, 1104, 1105, 1106, 1107, 1108, 1109, 1110, 1111, 1112, 1113, 1114, 1115, 1116, 1117, 1118] (by decide +kernel) (by decide +kernel)
set_option maxRecDepth 20000 in
theorem gL_law_X9_init : GoodIn wsL_law (wsX9_init) := ggL_law_X9_init
set_option maxRecDepth 20000 in
theorem ggL_law_X10_init : GoodIn wsL_law wsX10_init := goodIn_r _ [96, 97, 10, 11, 85, 98, 99, 100, 101, 83, 102, 103, 104, 1060, 1061, 1062, 1063, 1064, 1065, 1066, 1067, 1068, 1069, 1070, 1071, 1072, 1073, 1074] (by decide +kernel) (by decide +kernel)
set_option maxRecDepth 20000 in
theorem gL_law_X10_init : GoodIn wsL_law (wsX10_init) := ggL_law_X10_init
set_option maxRecDepth 20000 in
theorem ggL_law_X9_setKind : GoodIn wsL_law wsX9_setKind := goodIn_r _ [108, 15, 109, 110, 111, 14, 112, 33, 32, 113, 114, 115, 31, 116, 41, 44, 42, 117, 118, 119, 40, 120, 50, 56, 58, 54, 121, 122, 123, 59, 124, 125, 126, 127, 61, 128, 72, 73, 129, 130, 131, 63, 132, 133, 134, 135, 136, 137, 138, 139, 140, 141, 22, 142, 143, 144, 145, 146, 147, 148, 149, 150, 151, 152, 53, 153, 67, 68, 154, 155, 156, 157, 2, 158, 159, 160, 161, 162, 163, 164, 165, 166, 167, 168, 169, 170, 171, 172, 173, 174, 175, 176, 177, 178, 179, 180, 181, 182, 183, 184, 185, 186, 187, 29, 188, 189, 190, 191, 1057, 1058, 1059, 1075, 1076, 1077, 1078, 1092, 1093, 1094, 1095, 1096, 1097, 1098, 1099, 1100, 1101, 1102, 1103, 1107, 1108, 1109, 1110, 1111, 1112, 1113, 1114, 1085, 1086, 1087, 1088, 1089, 1090, 1091, 1104, 1105, 1106] (by decide +kernel) (by decide +kernel)
set_option maxRecDepth 20000 in
theorem gL_law_X9_setKind : GoodIn wsL_law (wsV RL 13 RX9 yX9_setKind wsX9_setKind) := goodIn_app (goodIn_of _ (by decide +kernel)) ggL_law_X9_setKind
set_option maxRecDepth 20000 in
theorem ggL_law_X10_setKind : GoodIn wsL_law wsX10_setKind := goodIn_r _ [195, 196, 197, 198, 5, 199, 99, 98, 200, 201, 202, 203, 204, 205, 206, 207, 208, 209, 210, 211, 212, 213, 214, 215, 216, 217, 218, 219, 101, 1060, 1061, 1062, 1063, 1064, 1065, 1066, 1067, 1068, 1069, 1070, 1071, 1072, 1073, 1074] (by decide +kernel) (by decide +kernel)
set_option maxRecDepth 20000 in
theorem gL_law_X10_setKind : GoodIn wsL_law (wsV RL 17 RX10 yX10_setKind wsX10_setKind) := goodIn_app (goodIn_of _ (by decide +kernel)) ggL_law_X10_setKind
set_option maxRecDepth 20000 in
theorem ggL_law_X9_setScale : GoodIn wsL_law wsX9_setScale := goodIn_r _ [223, 15, 109, 110, 111, 14, 112, 33, 32, 113, 114, 115, 31, 116, 41, 44, 42, 117, 118, 119, 40, 120, 50, 56, 58, 54, 121, 122, 123, 59, 124, 125, 126, 127, 61, 128, 72, 73, 129, 130, 131, 63, 132, 133, 134, 135, 136, 137, 138, 139, 140, 141, 22, 142, 143, 144, 145, 146, 147, 148, 149, 150, 151, 152, 53, 153, 67, 68, 154, 155, 156, 157, 2, 158, 159, 160, 224, 225, 226, 227, 165, 228, 229, 230, 231, 232, 233, 234, 235, 236, 237, 172, 173, 174, 175, 176, 177, 178, 179, 180, 181, 182, 183, 184, 185, 186, 187, 29, 188, 189, 190, 191, 1057, 1058, 1059, 1075, 1076, 1077, 1078, 1092, 1093, 1094, 1095, 1096, 1097, 1098, 1099, 1100, 1101, 1102, 1103, 1107, 1108, 1109, 1110, 1111, 1112, 1113, 1114, 1085, 1086, 1087, 1088, 1089, 1090, 1091, 1104, 1105, 1106] (by decide +kernel) (by decide +kernel)
set_option maxRecDepth 20000 in
theorem gL_law_X9_setScale : GoodIn wsL_law (wsV RL 18 RX9 yX9_setScale wsX9_setScale) := goodIn_app (goodIn_of _ (by decide +kernel)) ggL_law_X9_setScale
set_option maxRecDepth 20000 in
theorem ggL_law_X10_setScale : GoodIn wsL_law wsX10_setScale := goodIn_r _ [241, 196, 197, 198, 5, 199, 99, 98, 242, 243, 244, 245, 204, 208, 209, 210, 211, 212, 213, 214, 215, 216, 217, 218, 219, 101, 1060, 1061, 1062, 1063, 1064, 1065, 1066, 1067, 1068, 1069, 1070, 1071, 1072, 1073, 1074] (by decide +kernel) (by decide +kernel)
set_option maxRecDepth 20000 in
theorem gL_law_X10_setScale : GoodIn wsL_law (wsV RL 22 RX10 yX10_setScale wsX10_setScale) := goodIn_app (goodIn_of _ (by decide +kernel)) ggL_law_X10_setScale
set_option maxRecDepth 20000 in
theorem ggL_law_X9_setBias : GoodIn wsL_law wsX9_setBias := goodIn_r _ [249, 15, 109, 110, 111, 14, 112, 33, 32, 113, 114, 115, 31, 116, 41, 44, 42, 117, 118, 119, 40, 120, 50, 56, 58, 54, 121, 122, 123, 59, 124, 125, 126, 127, 61, 128, 72, 73, 129, 130, 131, 63, 132, 133, 134, 135, 136, 137, 138, 139, 140, 141, 22, 142, 143, 144, 145, 146, 147, 148, 149, 150, 151, 152, 53, 153, 67, 68, 154, 155, 156, 157, 2, 158, 159, 160, 250, 251, 252, 253, 229, 165, 230, 172, 173, 174, 175, 176, 177, 178, 179, 180, 181, 182, 183, 184, 185, 186, 187, 29, 188, 189, 190, 191, 1057, 1058, 1059, 1075, 1076, 1077, 1078, 1092, 1093, 1094, 1095, 1096, 1097, 1098, 1099, 1100, 1101, 1102, 1103, 1107, 1108, 1109, 1110, 1111, 1112, 1113, 1114, 1085, 1086, 1087, 1088, 1089, 1090, 1091, 1104, 1105, 1106] (by decide +kernel) (by decide +kernel)
set_option maxRecDepth 20000 in
theorem gL_law_X9_setBias : GoodIn wsL_law (wsV RL 23 RX9 yX9_setBias wsX9_setBias) := goodIn_app (goodIn_of _ (by decide +kernel)) ggL_law_X9_setBias
set_option maxRecDepth 20000 in
theorem ggL_law_X10_setBias : GoodIn wsL_law wsX10_setBias := goodIn_r _ [257, 98, 196, 197, 198, 5, 199, 99, 258, 259, 260, 261, 204, 208, 209, 210, 211, 212, 213, 214, 215, 216, 217, 218, 219, 101, 1060, 1061, 1062, 1063, 1064, 1065, 1066, 1067, 1068, 1069, 1070, 1071, 1072, 1073, 1074] (by decide +kernel) (by decide +kernel)
set_option maxRecDepth 20000 in
theorem gL_law_X10_setBias : GoodIn wsL_law (wsV RL 27 RX10 yX10_setBias wsX10_setBias) := goodIn_app (goodIn_of _ (by decide +kernel)) ggL_law_X10_setBias
set_option maxRecDepth 20000 in
theorem ggL_law_X9_setRule : GoodIn wsL_law wsX9_setRule := goodIn_r _ [265, 15, 109, 110, 111, 14, 112, 33, 32, 113, 114, 115, 31, 116, 41, 44, 42, 117, 118, 119, 40, 120, 50, 56, 58, 54, 121, 122, 123, 59, 124, 125, 126, 127, 61, 128, 72, 73, 129, 130, 131, 63, 132, 133, 134, 135, 136, 137, 138, 139, 140, 141, 22, 142, 143, 144, 145, 146, 147, 148, 149, 150, 151, 152, 53, 153, 67, 68, 154, 155, 156, 157, 2, 158, 159, 160, 266, 267, 268, 269, 165, 172, 173, 174, 175, 176, 177, 178, 179, 180, 181, 182, 183, 184, 185, 186, 187, 29, 188, 189, 190, 191, 1057, 1058, 1059, 1075, 1076, 1077, 1078, 1092, 1093, 1094, 1095, 1096, 1097, 1098, 1099, 1100, 1101, 1102, 1103, 1107, 1108, 1109, 1110, 1111, 1112, 1113, 1114, 1085, 1086, 1087, 1088, 1089, 1090, 1091, 1104, 1105, 1106] (by decide +kernel) (by decide +kernel)
set_option maxRecDepth 20000 in
theorem gL_law_X9_setRule : GoodIn wsL_law (wsV RL 28 RX9 yX9_setRule wsX9_setRule) := goodIn_app (goodIn_of _ (by decide +kernel)) ggL_law_X9_setRule
set_option maxRecDepth 20000 in
theorem ggL_law_X10_setRule : GoodIn wsL_law wsX10_setRule := goodIn_r _ [273, 196, 197, 198, 5, 199, 99, 98, 258, 259, 260, 261, 204, 208, 209, 210, 211, 212, 213, 214, 215, 216, 217, 218, 219, 101, 1060, 1061, 1062, 1063, 1064, 1065, 1066, 1067, 1068, 1069, 1070, 1071, 1072, 1073, 1074] (by decide +kernel) (by decide +kernel)
set_option maxRecDepth 20000 in
theorem gL_law_X10_setRule : GoodIn wsL_law (wsV RL 31 RX10 yX10_setRule wsX10_setRule) := goodIn_app (goodIn_of _ (by decide +kernel)) ggL_law_X10_setRule
set_option maxRecDepth 20000 in
theorem ggL_law_X9_setFee : GoodIn wsL_law wsX9_setFee := goodIn_r _ [277, 15, 109, 110, 111, 14, 112, 33, 32, 113, 114, 115, 31, 116, 41, 44, 42, 117, 118, 119, 40, 120, 50, 56, 58, 54, 121, 122, 123, 59, 124, 125, 126, 127, 61, 128, 72, 73, 129, 130, 131, 63, 132, 133, 134, 135, 136, 137, 138, 139, 140, 141, 22, 142, 143, 144, 145, 146, 147, 148, 149, 150, 151, 152, 53, 153, 67, 68, 154, 155, 156, 157, 2, 158, 159, 160, 278, 279, 280, 281, 165, 172, 173, 174, 175, 176, 177, 178, 179, 180, 181, 182, 183, 184, 185, 186, 187, 29, 188, 189, 190, 191, 1057, 1058, 1059, 1075, 1076, 1077, 1078, 1092, 1093, 1094, 1095, 1096, 1097, 1098, 1099, 1100, 1101, 1102, 1103, 1107, 1108, 1109, 1110, 1111, 1112, 1113, 1114, 1085, 1086, 1087, 1088, 1089, 1090, 1091, 1104, 1105, 1106] (by decide +kernel) (by decide +kernel)
set_option maxRecDepth 20000 in
theorem gL_law_X9_setFee : GoodIn wsL_law (wsV RL 32 RX9 yX9_setFee wsX9_setFee) := goodIn_app (goodIn_of _ (by decide +kernel)) ggL_law_X9_setFee
set_option maxRecDepth 20000 in
theorem ggL_law_X10_setFee : GoodIn wsL_law wsX10_setFee := goodIn_r _ [285, 196, 197, 198, 5, 199, 99, 98, 258, 259, 260, 261, 204, 208, 209, 210, 211, 212, 213, 214, 215, 216, 217, 218, 219, 101, 1060, 1061, 1062, 1063, 1064, 1065, 1066, 1067, 1068, 1069, 1070, 1071, 1072, 1073, 1074] (by decide +kernel) (by decide +kernel)
set_option maxRecDepth 20000 in
theorem gL_law_X10_setFee : GoodIn wsL_law (wsV RL 35 RX10 yX10_setFee wsX10_setFee) := goodIn_app (goodIn_of _ (by decide +kernel)) ggL_law_X10_setFee
set_option maxRecDepth 20000 in
theorem ggL_law_X9_come : GoodIn wsL_law wsX9_come := goodIn_r _ [289, 15, 109, 110, 111, 14, 112, 33, 32, 113, 114, 115, 31, 116, 41, 44, 42, 117, 118, 119, 40, 120, 50, 56, 58, 54, 121, 122, 123, 59, 124, 125, 126, 127, 61, 128, 72, 73, 129, 130, 131, 63, 132, 133, 134, 135, 136, 137, 138, 139, 140, 141, 22, 142, 143, 144, 145, 146, 147, 148, 149, 150, 151, 152, 53, 153, 67, 68, 154, 155, 156, 157, 2, 158, 159, 160, 290, 291, 292, 293, 165, 294, 172, 173, 295, 296, 297, 298, 174, 175, 176, 177, 178, 179, 180, 181, 182, 183, 184, 185, 186, 187, 29, 188, 189, 190, 191, 1057, 1058, 1059, 1075, 1076, 1077, 1078, 1092, 1093, 1094, 1095, 1096, 1097, 1098, 1099, 1100, 1101, 1102, 1103, 1107, 1108, 1109, 1110, 1111, 1112, 1113, 1114, 1085, 1086, 1087, 1088, 1089, 1090, 1091, 1104, 1105, 1106] (by decide +kernel) (by decide +kernel)
set_option maxRecDepth 20000 in
theorem gL_law_X9_come : GoodIn wsL_law (wsV RL 36 RX9 yX9_come wsX9_come) := goodIn_app (goodIn_of _ (by decide +kernel)) ggL_law_X9_come
set_option maxRecDepth 20000 in
theorem ggL_law_X10_come : GoodIn wsL_law wsX10_come := goodIn_r _ [302, 196, 197, 198, 5, 199, 99, 98, 303, 304, 305, 306, 204, 307, 208, 209, 210, 211, 212, 213, 214, 215, 216, 217, 218, 219, 101, 1060, 1061, 1062, 1063, 1064, 1065, 1066, 1067, 1068, 1069, 1070, 1071, 1072, 1073, 1074] (by decide +kernel) (by decide +kernel)
set_option maxRecDepth 20000 in
theorem gL_law_X10_come : GoodIn wsL_law (wsV RL 39 RX10 yX10_come wsX10_come) := goodIn_app (goodIn_of _ (by decide +kernel)) ggL_law_X10_come
set_option maxRecDepth 20000 in
theorem ggL_law_X9_leave : GoodIn wsL_law wsX9_leave := goodIn_r _ [311, 15, 109, 110, 111, 14, 112, 33, 32, 113, 114, 115, 31, 116, 41, 44, 42, 117, 118, 119, 40, 120, 50, 56, 58, 54, 121, 122, 123, 59, 124, 125, 126, 127, 61, 128, 72, 73, 129, 130, 131, 63, 132, 133, 134, 135, 136, 137, 138, 139, 140, 141, 22, 142, 143, 144, 145, 146, 147, 148, 149, 150, 151, 152, 53, 153, 67, 68, 154, 155, 156, 157, 2, 158, 159, 160, 312, 313, 314, 315, 165, 316, 317, 318, 319, 320, 172, 173, 295, 296, 297, 298, 174, 175, 176, 177, 178, 179, 180, 181, 182, 183, 184, 185, 186, 187, 29, 188, 189, 190, 191, 1057, 1058, 1059, 1075, 1076, 1077, 1078, 1092, 1093, 1094, 1095, 1096, 1097, 1098, 1099, 1100, 1101, 1102, 1103, 1107, 1108, 1109, 1110, 1111, 1112, 1113, 1114, 1085, 1086, 1087, 1088, 1089, 1090, 1091, 1104, 1105, 1106] (by decide +kernel) (by decide +kernel)
set_option maxRecDepth 20000 in
theorem gL_law_X9_leave : GoodIn wsL_law (wsV RL 40 RX9 yX9_leave wsX9_leave) := goodIn_app (goodIn_of _ (by decide +kernel)) ggL_law_X9_leave
