theorem dL_apart_234 : decode cL_apart 234 = .ok (.ireturn, 1) := by decide +kernel
set_option maxRecDepth 20000 in
theorem ggL_weighs_X9_kind : GoodIn wsL_weighs wsX9_kind := goodIn_r _ [5, 6, 7, 8, 9, 10, 11, 4, 12, 13, 14, 15, 16, 17, 18, 19, 20, 21, 22, 23, 24, 246, 247, 248, 249, 250, 251, 252, 253, 254, 255, 256, 257, 258, 259, 260, 261, 262, 263, 264, 265, 266] (by decide +kernel) (by decide +kernel)
set_option maxRecDepth 20000 in
theorem gL_weighs_X9_kind : GoodIn wsL_weighs (wsV RL 53 RX9 yX9_kind wsX9_kind) := goodIn_app (goodIn_of _ (by decide +kernel)) ggL_weighs_X9_kind
set_option maxRecDepth 20000 in
theorem ggL_weighs_X9_customer : GoodIn wsL_weighs wsX9_customer := goodIn_r _ [28, 6, 9, 10, 11, 4, 12, 13, 14, 15, 29, 30, 31, 19, 32, 33, 34, 22, 23, 35, 36, 37, 38, 39, 40, 41, 42, 43, 44, 45, 46, 47, 248, 249, 250, 251, 252, 253, 254, 255, 256, 257, 258, 259, 260, 261, 262, 263, 264, 265, 266, 267, 268, 269, 270, 271, 272] (by decide +kernel) (by decide +kernel)
set_option maxRecDepth 20000 in
theorem gL_weighs_X9_customer : GoodIn wsL_weighs (wsV RL 26 RX9 yX9_customer wsX9_customer) := goodIn_app (goodIn_of _ (by decide +kernel)) ggL_weighs_X9_customer
set_option maxRecDepth 20000 in
theorem ggL_weighs_X9_count : GoodIn wsL_weighs wsX9_count := goodIn_r _ [51, 13, 14, 52, 53, 54, 55, 56, 57, 58, 59, 60, 9, 10, 11, 4, 12, 15, 61, 62, 63, 19, 64, 65, 66, 67, 68, 69, 70, 33, 71, 72, 73, 74, 75, 76, 77, 34, 78, 79, 80, 81, 82, 83, 84, 85, 86, 87, 88, 89, 248, 249, 250, 251, 252, 253, 254, 273, 274, 275, 276, 277, 278, 255, 256, 257, 258, 259, 260, 261, 262, 263, 264, 265, 266, 279, 280, 281, 267, 268, 269, 270, 271, 272, 282, 283, 284, 285, 286, 287, 288] (by decide +kernel) (by decide +kernel)
set_option maxRecDepth 20000 in
theorem gL_weighs_X9_count : GoodIn wsL_weighs (wsV RL 9 RX9 yX9_count wsX9_count) := goodIn_app (goodIn_of _ (by decide +kernel)) ggL_weighs_X9_count
set_option maxRecDepth 20000 in
theorem ggL_weighs_X9_weigh : GoodIn wsL_weighs wsX9_weigh := goodIn_r _ [93, 13, 94, 95, 96, 97, 98, 99, 100, 101, 102, 103, 58, 104, 105, 60, 106, 107, 108, 109, 19, 110, 21, 34, 88, 65, 33, 71, 69, 70, 72, 111, 112, 113, 114, 115, 116, 117, 118, 119, 120, 38, 121, 41, 42, 44, 45, 46, 47, 122, 123, 124, 125, 126, 127, 128, 129, 130, 131, 132, 133, 134, 135, 136, 137, 138, 139, 140, 141, 9, 10, 11, 4, 12, 14, 15, 142, 143, 144, 145, 73, 146, 66, 147, 68, 148, 30, 31, 32, 22, 23, 149, 17, 18, 20, 150, 151, 152, 153, 154, 155, 156, 157, 158, 159, 160, 161, 162, 163, 164, 165, 166, 167, 168, 169, 170, 171, 172, 173, 174, 175, 176, 177, 178, 179, 180, 181, 182, 183, 184, 185, 186, 187, 188, 189, 190, 191, 192, 193, 194, 195, 196, 197, 198, 199, 200, 201, 202, 203, 204, 205, 206, 207, 208, 209, 210, 211, 212, 213, 214, 215, 216, 217, 218, 219, 6, 220, 221, 222, 223, 224, 225, 226, 227, 228, 229, 230, 231, 248, 249, 250, 251, 252, 253, 254, 255, 256, 257, 258, 259, 260, 261, 262, 263, 264, 265, 266, 246, 247, 267, 268, 269, 270, 271, 272, 282, 283, 284, 285, 286, 287, 288, 279, 280, 281] (by decide +kernel) (by decide +kernel)
set_option maxRecDepth 20000 in
theorem gL_weighs_X9_weigh : GoodIn wsL_weighs (wsV RL 62 RX9 yX9_weigh wsX9_weigh) := goodIn_app (goodIn_of _ (by decide +kernel)) ggL_weighs_X9_weigh
set_option maxRecDepth 20000 in
theorem ggL_weighs_X9_allowed : GoodIn wsL_weighs wsX9_allowed := goodIn_r _ [235, 236, 6, 237, 238, 9, 10, 11, 4, 12, 13, 14, 15, 16, 17, 18, 19, 20, 21, 22, 23, 24, 239, 174, 175, 137, 176, 140, 172, 153, 154, 155, 177, 178, 179, 114, 180, 116, 117, 181, 182, 183, 184, 139, 157, 158, 159, 160, 161, 162, 240, 186, 187, 188, 189, 190, 191, 192, 193, 194, 195, 196, 197, 198, 199, 200, 258, 259, 260, 261, 262, 263, 264, 265, 266, 248, 249, 250, 251, 252, 253, 254, 255, 256, 257, 279, 280, 281, 246, 247] (by decide +kernel) (by decide +kernel)
set_option maxRecDepth 20000 in
theorem gL_weighs_X9_allowed : GoodIn wsL_weighs (wsV RL 18 RX9 yX9_allowed wsX9_allowed) := goodIn_app (goodIn_of _ (by decide +kernel)) ggL_weighs_X9_allowed
set_option maxRecDepth 20000 in
theorem ggL_weighs_X9_guess : GoodIn wsL_weighs wsX9_guess := goodIn_r _ [244, 236, 6, 237, 9, 10, 11, 4, 12, 13, 14, 15, 16, 17, 18, 19, 20, 21, 22, 23, 24, 245, 164, 165, 137, 166, 167, 168, 169, 170, 154, 171, 172, 153, 155, 173, 174, 175, 176, 140, 177, 178, 179, 114, 180, 116, 117, 181, 182, 183, 184, 139, 157, 158, 159, 160, 161, 162, 185, 186, 187, 188, 189, 190, 191, 192, 193, 194, 195, 196, 197, 198, 199, 200, 201, 202, 203, 204, 258, 259, 260, 261, 262, 263, 264, 265, 266, 248, 249, 250, 251, 252, 253, 254, 255, 256, 257, 246, 247, 279, 280, 281] (by decide +kernel) (by decide +kernel)
set_option maxRecDepth 20000 in
theorem gL_weighs_X9_guess : GoodIn wsL_weighs (wsV RL 23 RX9 yX9_guess wsX9_guess) := goodIn_app (goodIn_of _ (by decide +kernel)) ggL_weighs_X9_guess
theorem dL_weighs_0 : decode cL_weighs 0 = .ok (.iload_n 2, 1) := by decide +kernel
theorem dL_weighs_1 : decode cL_weighs 1 = .ok (.iconst 4, 1) := by decide +kernel
theorem dL_weighs_2 : decode cL_weighs 2 = .ok (.irem, 1) := by decide +kernel
theorem dL_weighs_3 : decode cL_weighs 3 = .ok (.istore_n 3, 1) := by decide +kernel
theorem dL_weighs_4 : decode cL_weighs 4 = .ok (.iconst 1, 1) := by decide +kernel
theorem dL_weighs_5 : decode cL_weighs 5 = .ok (.iload_n 2, 1) := by decide +kernel
theorem dL_weighs_6 : decode cL_weighs 6 = .ok (.iconst 4, 1) := by decide +kernel
theorem dL_weighs_7 : decode cL_weighs 7 = .ok (.idiv, 1) := by decide +kernel
theorem dL_weighs_8 : decode cL_weighs 8 = .ok (.bipush 80, 2) := by decide +kernel
theorem dL_weighs_10 : decode cL_weighs 10 = .ok (.irem, 1) := by decide +kernel
theorem dL_weighs_11 : decode cL_weighs 11 = .ok (.iadd, 1) := by decide +kernel
theorem dL_weighs_12 : decode cL_weighs 12 = .ok (.istore 4, 2) := by decide +kernel
theorem dL_weighs_14 : decode cL_weighs 14 = .ok (.iload 4, 2) := by decide +kernel
theorem dL_weighs_16 : decode cL_weighs 16 = .ok (.aload_n 0, 1) := by decide +kernel
theorem dL_weighs_17 : decode cL_weighs 17 = .ok (.iload_n 3, 1) := by decide +kernel
theorem dL_weighs_18 : decode cL_weighs 18 = .ok (.iconst 1, 1) := by decide +kernel
theorem dL_weighs_19 : decode cL_weighs 19 = .ok (.invokevirtual 53, 3) := by decide +kernel
theorem dL_weighs_22 : decode cL_weighs 22 = .ok (.imul, 1) := by decide +kernel
theorem dL_weighs_23 : decode cL_weighs 23 = .ok (.istore 5, 2) := by decide +kernel
theorem dL_weighs_25 : decode cL_weighs 25 = .ok (.aload_n 0, 1) := by decide +kernel
theorem dL_weighs_26 : decode cL_weighs 26 = .ok (.iload_n 1, 1) := by decide +kernel
theorem dL_weighs_27 : decode cL_weighs 27 = .ok (.iconst 0, 1) := by decide +kernel
theorem dL_weighs_28 : decode cL_weighs 28 = .ok (.invokevirtual 26, 3) := by decide +kernel
theorem dL_weighs_31 : decode cL_weighs 31 = .ok (.istore 6, 2) := by decide +kernel
theorem dL_weighs_33 : decode cL_weighs 33 = .ok (.aload_n 0, 1) := by decide +kernel
theorem dL_weighs_34 : decode cL_weighs 34 = .ok (.bipush 8, 2) := by decide +kernel
theorem dL_weighs_36 : decode cL_weighs 36 = .ok (.invokevirtual 9, 3) := by decide +kernel
theorem dL_weighs_39 : decode cL_weighs 39 = .ok (.istore 7, 2) := by decide +kernel
theorem dL_weighs_41 : decode cL_weighs 41 = .ok (.aload_n 0, 1) := by decide +kernel
theorem dL_weighs_42 : decode cL_weighs 42 = .ok (.iload_n 1, 1) := by decide +kernel
theorem dL_weighs_43 : decode cL_weighs 43 = .ok (.iload_n 3, 1) := by decide +kernel
theorem dL_weighs_44 : decode cL_weighs 44 = .ok (.iload 4, 2) := by decide +kernel
theorem dL_weighs_46 : decode cL_weighs 46 = .ok (.iload_n 2, 1) := by decide +kernel
theorem dL_weighs_47 : decode cL_weighs 47 = .ok (.sipush 512, 3) := by decide +kernel
theorem dL_weighs_50 : decode cL_weighs 50 = .ok (.idiv, 1) := by decide +kernel
theorem dL_weighs_51 : decode cL_weighs 51 = .ok (.iconst 2, 1) := by decide +kernel
theorem dL_weighs_52 : decode cL_weighs 52 = .ok (.iload 5, 2) := by decide +kernel
theorem dL_weighs_54 : decode cL_weighs 54 = .ok (.imul, 1) := by decide +kernel
theorem dL_weighs_55 : decode cL_weighs 55 = .ok (.iconst 1, 1) := by decide +kernel
theorem dL_weighs_56 : decode cL_weighs 56 = .ok (.iadd, 1) := by decide +kernel
theorem dL_weighs_57 : decode cL_weighs 57 = .ok (.irem, 1) := by decide +kernel
theorem dL_weighs_58 : decode cL_weighs 58 = .ok (.iload 5, 2) := by decide +kernel
theorem dL_weighs_60 : decode cL_weighs 60 = .ok (.isub, 1) := by decide +kernel
theorem dL_weighs_61 : decode cL_weighs 61 = .ok (.invokevirtual 62, 3) := by decide +kernel
theorem dL_weighs_64 : decode cL_weighs 64 = .ok (.istore 8, 2) := by decide +kernel
theorem dL_weighs_66 : decode cL_weighs 66 = .ok (.aload_n 0, 1) := by decide +kernel
theorem dL_weighs_67 : decode cL_weighs 67 = .ok (.iload_n 1, 1) := by decide +kernel
theorem dL_weighs_68 : decode cL_weighs 68 = .ok (.iconst 3, 1) := by decide +kernel
theorem dL_weighs_69 : decode cL_weighs 69 = .ok (.invokevirtual 26, 3) := by decide +kernel
theorem dL_weighs_72 : decode cL_weighs 72 = .ok (.istore 9, 2) := by decide +kernel
theorem dL_weighs_74 : decode cL_weighs 74 = .ok (.iload 8, 2) := by decide +kernel
theorem dL_weighs_76 : decode cL_weighs 76 = .ok (.ifCond .lt 103, 3) := by decide +kernel
theorem dL_weighs_79 : decode cL_weighs 79 = .ok (.aload_n 0, 1) := by decide +kernel
theorem dL_weighs_80 : decode cL_weighs 80 = .ok (.iload_n 1, 1) := by decide +kernel
theorem dL_weighs_81 : decode cL_weighs 81 = .ok (.iconst 0, 1) := by decide +kernel
theorem dL_weighs_82 : decode cL_weighs 82 = .ok (.invokevirtual 26, 3) := by decide +kernel
theorem dL_weighs_85 : decode cL_weighs 85 = .ok (.iload 6, 2) := by decide +kernel
theorem dL_weighs_87 : decode cL_weighs 87 = .ok (.iload 8, 2) := by decide +kernel
theorem dL_weighs_89 : decode cL_weighs 89 = .ok (.iadd, 1) := by decide +kernel
theorem dL_weighs_90 : decode cL_weighs 90 = .ok (.if_icmp .ne 89, 3) := by decide +kernel
theorem dL_weighs_93 : decode cL_weighs 93 = .ok (.aload_n 0, 1) := by decide +kernel
theorem dL_weighs_94 : decode cL_weighs 94 = .ok (.bipush 8, 2) := by decide +kernel
theorem dL_weighs_96 : decode cL_weighs 96 = .ok (.invokevirtual 9, 3) := by decide +kernel
theorem dL_weighs_99 : decode cL_weighs 99 = .ok (.iload 7, 2) := by decide +kernel
theorem dL_weighs_101 : decode cL_weighs 101 = .ok (.iload 8, 2) := by decide +kernel
theorem dL_weighs_103 : decode cL_weighs 103 = .ok (.iadd, 1) := by decide +kernel
theorem dL_weighs_104 : decode cL_weighs 104 = .ok (.iload 4, 2) := by decide +kernel
theorem dL_weighs_106 : decode cL_weighs 106 = .ok (.isub, 1) := by decide +kernel
theorem dL_weighs_107 : decode cL_weighs 107 = .ok (.if_icmp .ne 72, 3) := by decide +kernel
theorem dL_weighs_110 : decode cL_weighs 110 = .ok (.aload_n 0, 1) := by decide +kernel
theorem dL_weighs_111 : decode cL_weighs 111 = .ok (.iload_n 1, 1) := by decide +kernel
theorem dL_weighs_112 : decode cL_weighs 112 = .ok (.iconst 4, 1) := by decide +kernel
theorem dL_weighs_113 : decode cL_weighs 113 = .ok (.invokevirtual 26, 3) := by decide +kernel
theorem dL_weighs_116 : decode cL_weighs 116 = .ok (.iload 8, 2) := by decide +kernel
theorem dL_weighs_118 : decode cL_weighs 118 = .ok (.if_icmp .ne 61, 3) := by decide +kernel
theorem dL_weighs_121 : decode cL_weighs 121 = .ok (.aload_n 0, 1) := by decide +kernel
theorem dL_weighs_122 : decode cL_weighs 122 = .ok (.iload_n 1, 1) := by decide +kernel
theorem dL_weighs_123 : decode cL_weighs 123 = .ok (.iconst 2, 1) := by decide +kernel
theorem dL_weighs_124 : decode cL_weighs 124 = .ok (.invokevirtual 26, 3) := by decide +kernel
theorem dL_weighs_127 : decode cL_weighs 127 = .ok (.iload 4, 2) := by decide +kernel
theorem dL_weighs_129 : decode cL_weighs 129 = .ok (.if_icmp .ne 50, 3) := by decide +kernel
theorem dL_weighs_132 : decode cL_weighs 132 = .ok (.aload_n 0, 1) := by decide +kernel
theorem dL_weighs_133 : decode cL_weighs 133 = .ok (.iload 9, 2) := by decide +kernel
theorem dL_weighs_135 : decode cL_weighs 135 = .ok (.iload_n 3, 1) := by decide +kernel
theorem dL_weighs_136 : decode cL_weighs 136 = .ok (.iconst 0, 1) := by decide +kernel
