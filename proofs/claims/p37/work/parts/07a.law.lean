theorem dL_cell_0 : decode cL_cell 0 = .ok (.iload_n 1, 1) := by decide +kernel
theorem dL_cell_1 : decode cL_cell 1 = .ok (.aload_n 0, 1) := by decide +kernel
theorem dL_cell_2 : decode cL_cell 2 = .ok (.arraylength, 1) := by decide +kernel
theorem dL_cell_3 : decode cL_cell 3 = .ok (.if_icmp .ge 9, 3) := by decide +kernel
theorem dL_cell_6 : decode cL_cell 6 = .ok (.aload_n 0, 1) := by decide +kernel
theorem dL_cell_7 : decode cL_cell 7 = .ok (.iload_n 1, 1) := by decide +kernel
theorem dL_cell_8 : decode cL_cell 8 = .ok (.iaload, 1) := by decide +kernel
theorem dL_cell_9 : decode cL_cell 9 = .ok (.goto 10, 3) := by decide +kernel
theorem dL_cell_12 : decode cL_cell 12 = .ok (.ldc 7, 2) := by decide +kernel
theorem dL_cell_14 : decode cL_cell 14 = .ok (.iload_n 1, 1) := by decide +kernel
theorem dL_cell_15 : decode cL_cell 15 = .ok (.imul, 1) := by decide +kernel
theorem dL_cell_16 : decode cL_cell 16 = .ok (.bipush 109, 2) := by decide +kernel
theorem dL_cell_18 : decode cL_cell 18 = .ok (.iadd, 1) := by decide +kernel
theorem dL_cell_19 : decode cL_cell 19 = .ok (.ldc 8, 2) := by decide +kernel
theorem dL_cell_21 : decode cL_cell 21 = .ok (.iand, 1) := by decide +kernel
theorem dL_cell_22 : decode cL_cell 22 = .ok (.ireturn, 1) := by decide +kernel
set_option maxRecDepth 20000 in
theorem ggL_reading_X9_count : GoodIn wsL_reading wsX9_count := goodIn_r _ [6, 7, 8, 9, 10, 11, 12, 13, 14, 15, 16, 17, 18, 19, 20, 5, 21, 22, 23, 24, 25, 26, 27, 28, 29, 30, 31, 32, 33, 34, 35, 36, 37, 38, 39, 40, 41, 42, 43, 44, 45, 46, 47, 48, 49, 50, 51, 52, 53, 54, 144, 145, 146, 147, 148, 149, 150, 151, 152, 153, 154, 155, 156, 157, 158, 159, 160, 161, 162, 163, 164, 165, 166, 167, 168, 169, 170, 171, 172, 173, 174, 175, 176, 177, 178, 179, 180, 181, 182, 183, 184] (by decide +kernel) (by decide +kernel)
set_option maxRecDepth 20000 in
theorem gL_reading_X9_count : GoodIn wsL_reading (wsV RL 9 RX9 yX9_count wsX9_count) := goodIn_app (goodIn_of _ (by decide +kernel)) ggL_reading_X9_count
set_option maxRecDepth 20000 in
theorem ggL_reading_X9_read : GoodIn wsL_reading wsX9_read := goodIn_r _ [58, 59, 60, 61, 62, 63, 64, 5, 65, 18, 19, 20, 21, 7, 8, 22, 66, 67, 68, 69, 70, 71, 72, 73, 74, 75, 76, 77, 78, 79, 160, 161, 162, 163, 164, 165, 166, 167, 168, 169, 170, 171, 144, 145, 146, 147, 148, 149, 150, 157, 158, 159] (by decide +kernel) (by decide +kernel)
set_option maxRecDepth 20000 in
theorem gL_reading_X9_read : GoodIn wsL_reading (wsV RL 15 RX9 yX9_read wsX9_read) := goodIn_app (goodIn_of _ (by decide +kernel)) ggL_reading_X9_read
set_option maxRecDepth 20000 in
theorem ggL_reading_X9_allowed : GoodIn wsL_reading wsX9_allowed := goodIn_r _ [83, 59, 60, 61, 84, 18, 19, 20, 5, 21, 7, 8, 22, 85, 86, 87, 26, 88, 89, 64, 65, 63, 90, 91, 92, 93, 94, 95, 96, 70, 71, 72, 97, 98, 99, 100, 101, 102, 103, 104, 105, 106, 107, 108, 74, 75, 76, 77, 78, 79, 109, 110, 111, 112, 113, 114, 115, 116, 117, 118, 119, 120, 121, 122, 123, 124, 160, 161, 162, 163, 164, 165, 166, 167, 168, 144, 145, 146, 147, 148, 149, 150, 157, 158, 159, 169, 170, 171, 185, 186] (by decide +kernel) (by decide +kernel)
set_option maxRecDepth 20000 in
theorem gL_reading_X9_allowed : GoodIn wsL_reading (wsV RL 18 RX9 yX9_allowed wsX9_allowed) := goodIn_app (goodIn_of _ (by decide +kernel)) ggL_reading_X9_allowed
set_option maxRecDepth 20000 in
theorem ggL_reading_X9_guess : GoodIn wsL_reading wsX9_guess := goodIn_r _ [128, 59, 60, 61, 18, 19, 20, 5, 21, 7, 8, 22, 85, 86, 87, 26, 88, 89, 64, 65, 63, 129, 130, 131, 93, 132, 133, 134, 135, 136, 71, 137, 96, 70, 72, 138, 91, 92, 94, 95, 97, 98, 99, 100, 101, 102, 103, 104, 105, 106, 107, 108, 74, 75, 76, 77, 78, 79, 139, 110, 111, 112, 113, 114, 115, 116, 117, 118, 119, 120, 121, 122, 123, 124, 140, 141, 142, 143, 160, 161, 162, 163, 164, 165, 166, 167, 168, 144, 145, 146, 147, 148, 149, 150, 157, 158, 159, 185, 186, 169, 170, 171] (by decide +kernel) (by decide +kernel)
set_option maxRecDepth 20000 in
theorem gL_reading_X9_guess : GoodIn wsL_reading (wsV RL 23 RX9 yX9_guess wsX9_guess) := goodIn_app (goodIn_of _ (by decide +kernel)) ggL_reading_X9_guess
theorem dL_reading_0 : decode cL_reading 0 = .ok (.aload_n 0, 1) := by decide +kernel
theorem dL_reading_1 : decode cL_reading 1 = .ok (.iconst 0, 1) := by decide +kernel
theorem dL_reading_2 : decode cL_reading 2 = .ok (.invokevirtual 9, 3) := by decide +kernel
theorem dL_reading_5 : decode cL_reading 5 = .ok (.istore_n 3, 1) := by decide +kernel
theorem dL_reading_6 : decode cL_reading 6 = .ok (.aload_n 0, 1) := by decide +kernel
theorem dL_reading_7 : decode cL_reading 7 = .ok (.iload_n 1, 1) := by decide +kernel
theorem dL_reading_8 : decode cL_reading 8 = .ok (.invokevirtual 15, 3) := by decide +kernel
theorem dL_reading_11 : decode cL_reading 11 = .ok (.istore 4, 2) := by decide +kernel
theorem dL_reading_13 : decode cL_reading 13 = .ok (.aload_n 0, 1) := by decide +kernel
theorem dL_reading_14 : decode cL_reading 14 = .ok (.iload 4, 2) := by decide +kernel
theorem dL_reading_16 : decode cL_reading 16 = .ok (.iload_n 2, 1) := by decide +kernel
theorem dL_reading_17 : decode cL_reading 17 = .ok (.iconst 0, 1) := by decide +kernel
theorem dL_reading_18 : decode cL_reading 18 = .ok (.invokevirtual 18, 3) := by decide +kernel
theorem dL_reading_21 : decode cL_reading 21 = .ok (.istore 5, 2) := by decide +kernel
theorem dL_reading_23 : decode cL_reading 23 = .ok (.aload_n 0, 1) := by decide +kernel
theorem dL_reading_24 : decode cL_reading 24 = .ok (.iload 4, 2) := by decide +kernel
theorem dL_reading_26 : decode cL_reading 26 = .ok (.iload_n 2, 1) := by decide +kernel
theorem dL_reading_27 : decode cL_reading 27 = .ok (.iconst 1, 1) := by decide +kernel
theorem dL_reading_28 : decode cL_reading 28 = .ok (.invokevirtual 18, 3) := by decide +kernel
theorem dL_reading_31 : decode cL_reading 31 = .ok (.istore 6, 2) := by decide +kernel
theorem dL_reading_33 : decode cL_reading 33 = .ok (.aload_n 0, 1) := by decide +kernel
theorem dL_reading_34 : decode cL_reading 34 = .ok (.iload 4, 2) := by decide +kernel
theorem dL_reading_36 : decode cL_reading 36 = .ok (.iload_n 2, 1) := by decide +kernel
theorem dL_reading_37 : decode cL_reading 37 = .ok (.iconst 2, 1) := by decide +kernel
theorem dL_reading_38 : decode cL_reading 38 = .ok (.invokevirtual 18, 3) := by decide +kernel
theorem dL_reading_41 : decode cL_reading 41 = .ok (.istore 7, 2) := by decide +kernel
theorem dL_reading_43 : decode cL_reading 43 = .ok (.iload 4, 2) := by decide +kernel
theorem dL_reading_45 : decode cL_reading 45 = .ok (.ifCond .lt 50, 3) := by decide +kernel
theorem dL_reading_48 : decode cL_reading 48 = .ok (.iload 4, 2) := by decide +kernel
theorem dL_reading_50 : decode cL_reading 50 = .ok (.iload_n 3, 1) := by decide +kernel
theorem dL_reading_51 : decode cL_reading 51 = .ok (.irem, 1) := by decide +kernel
theorem dL_reading_52 : decode cL_reading 52 = .ok (.ifCond .ne 43, 3) := by decide +kernel
theorem dL_reading_55 : decode cL_reading 55 = .ok (.iload_n 1, 1) := by decide +kernel
theorem dL_reading_56 : decode cL_reading 56 = .ok (.ifCond .lt 23, 3) := by decide +kernel
theorem dL_reading_59 : decode cL_reading 59 = .ok (.iconst 2, 1) := by decide +kernel
theorem dL_reading_60 : decode cL_reading 60 = .ok (.iload 4, 2) := by decide +kernel
theorem dL_reading_62 : decode cL_reading 62 = .ok (.iload_n 1, 1) := by decide +kernel
theorem dL_reading_63 : decode cL_reading 63 = .ok (.isub, 1) := by decide +kernel
theorem dL_reading_64 : decode cL_reading 64 = .ok (.imul, 1) := by decide +kernel
theorem dL_reading_65 : decode cL_reading 65 = .ok (.iload_n 3, 1) := by decide +kernel
theorem dL_reading_66 : decode cL_reading 66 = .ok (.if_icmp .gt 29, 3) := by decide +kernel
theorem dL_reading_69 : decode cL_reading 69 = .ok (.iconst 2, 1) := by decide +kernel
theorem dL_reading_70 : decode cL_reading 70 = .ok (.iload_n 1, 1) := by decide +kernel
theorem dL_reading_71 : decode cL_reading 71 = .ok (.iload 4, 2) := by decide +kernel
theorem dL_reading_73 : decode cL_reading 73 = .ok (.isub, 1) := by decide +kernel
theorem dL_reading_74 : decode cL_reading 74 = .ok (.imul, 1) := by decide +kernel
theorem dL_reading_75 : decode cL_reading 75 = .ok (.iload_n 3, 1) := by decide +kernel
theorem dL_reading_76 : decode cL_reading 76 = .ok (.if_icmp .gt 19, 3) := by decide +kernel
theorem dL_reading_79 : decode cL_reading 79 = .ok (.aload_n 0, 1) := by decide +kernel
theorem dL_reading_80 : decode cL_reading 80 = .ok (.iload_n 1, 1) := by decide +kernel
theorem dL_reading_81 : decode cL_reading 81 = .ok (.iconst 1, 1) := by decide +kernel
theorem dL_reading_82 : decode cL_reading 82 = .ok (.iadd, 1) := by decide +kernel
theorem dL_reading_83 : decode cL_reading 83 = .ok (.invokevirtual 15, 3) := by decide +kernel
theorem dL_reading_86 : decode cL_reading 86 = .ok (.iload 4, 2) := by decide +kernel
theorem dL_reading_88 : decode cL_reading 88 = .ok (.if_icmp .lt 7, 3) := by decide +kernel
theorem dL_reading_91 : decode cL_reading 91 = .ok (.iconst 1, 1) := by decide +kernel
theorem dL_reading_92 : decode cL_reading 92 = .ok (.goto 4, 3) := by decide +kernel
theorem dL_reading_95 : decode cL_reading 95 = .ok (.iconst 0, 1) := by decide +kernel
theorem dL_reading_96 : decode cL_reading 96 = .ok (.istore 8, 2) := by decide +kernel
theorem dL_reading_98 : decode cL_reading 98 = .ok (.iload 7, 2) := by decide +kernel
theorem dL_reading_100 : decode cL_reading 100 = .ok (.ifCond .ne 41, 3) := by decide +kernel
theorem dL_reading_103 : decode cL_reading 103 = .ok (.iload 8, 2) := by decide +kernel
theorem dL_reading_105 : decode cL_reading 105 = .ok (.ifCond .eq 34, 3) := by decide +kernel
theorem dL_reading_108 : decode cL_reading 108 = .ok (.iload 5, 2) := by decide +kernel
theorem dL_reading_110 : decode cL_reading 110 = .ok (.ldc 22, 2) := by decide +kernel
theorem dL_reading_112 : decode cL_reading 112 = .ok (.if_icmp .ne 27, 3) := by decide +kernel
theorem dL_reading_115 : decode cL_reading 115 = .ok (.iload 6, 2) := by decide +kernel
theorem dL_reading_117 : decode cL_reading 117 = .ok (.ldc 22, 2) := by decide +kernel
theorem dL_reading_119 : decode cL_reading 119 = .ok (.if_icmp .ne 20, 3) := by decide +kernel
theorem dL_reading_122 : decode cL_reading 122 = .ok (.aload_n 0, 1) := by decide +kernel
theorem dL_reading_123 : decode cL_reading 123 = .ok (.iload 4, 2) := by decide +kernel
theorem dL_reading_125 : decode cL_reading 125 = .ok (.iload_n 2, 1) := by decide +kernel
theorem dL_reading_126 : decode cL_reading 126 = .ok (.iconst 0, 1) := by decide +kernel
theorem dL_reading_127 : decode cL_reading 127 = .ok (.invokevirtual 23, 3) := by decide +kernel
theorem dL_reading_130 : decode cL_reading 130 = .ok (.ldc 22, 2) := by decide +kernel
theorem dL_reading_132 : decode cL_reading 132 = .ok (.if_icmp .ne 7, 3) := by decide +kernel
theorem dL_reading_135 : decode cL_reading 135 = .ok (.iconst 1, 1) := by decide +kernel
theorem dL_reading_136 : decode cL_reading 136 = .ok (.goto 4, 3) := by decide +kernel
