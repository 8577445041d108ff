theorem dL_weighs_137 : decode cL_weighs 137 = .ok (.invokevirtual 18, 3) := by decide +kernel
theorem dL_weighs_140 : decode cL_weighs 140 = .ok (.iload 4, 2) := by decide +kernel
theorem dL_weighs_142 : decode cL_weighs 142 = .ok (.if_icmp .gt 37, 3) := by decide +kernel
theorem dL_weighs_145 : decode cL_weighs 145 = .ok (.iload 4, 2) := by decide +kernel
theorem dL_weighs_147 : decode cL_weighs 147 = .ok (.aload_n 0, 1) := by decide +kernel
theorem dL_weighs_148 : decode cL_weighs 148 = .ok (.iload 9, 2) := by decide +kernel
theorem dL_weighs_150 : decode cL_weighs 150 = .ok (.iload_n 3, 1) := by decide +kernel
theorem dL_weighs_151 : decode cL_weighs 151 = .ok (.iconst 1, 1) := by decide +kernel
theorem dL_weighs_152 : decode cL_weighs 152 = .ok (.invokevirtual 18, 3) := by decide +kernel
theorem dL_weighs_155 : decode cL_weighs 155 = .ok (.if_icmp .gt 24, 3) := by decide +kernel
theorem dL_weighs_158 : decode cL_weighs 158 = .ok (.aload_n 0, 1) := by decide +kernel
theorem dL_weighs_159 : decode cL_weighs 159 = .ok (.iload 9, 2) := by decide +kernel
theorem dL_weighs_161 : decode cL_weighs 161 = .ok (.iload_n 3, 1) := by decide +kernel
theorem dL_weighs_162 : decode cL_weighs 162 = .ok (.aload_n 0, 1) := by decide +kernel
theorem dL_weighs_163 : decode cL_weighs 163 = .ok (.iconst 3, 1) := by decide +kernel
theorem dL_weighs_164 : decode cL_weighs 164 = .ok (.invokevirtual 9, 3) := by decide +kernel
theorem dL_weighs_167 : decode cL_weighs 167 = .ok (.invokevirtual 23, 3) := by decide +kernel
theorem dL_weighs_170 : decode cL_weighs 170 = .ok (.iload 8, 2) := by decide +kernel
theorem dL_weighs_172 : decode cL_weighs 172 = .ok (.if_icmp .ne 7, 3) := by decide +kernel
theorem dL_weighs_175 : decode cL_weighs 175 = .ok (.iconst 1, 1) := by decide +kernel
theorem dL_weighs_176 : decode cL_weighs 176 = .ok (.goto 4, 3) := by decide +kernel
theorem dL_weighs_179 : decode cL_weighs 179 = .ok (.iconst 0, 1) := by decide +kernel
theorem dL_weighs_180 : decode cL_weighs 180 = .ok (.ireturn, 1) := by decide +kernel
set_option maxRecDepth 20000 in
theorem ggL_claims_X9_count : GoodIn wsL_claims wsX9_count := goodIn_r _ [7, 8, 9, 10, 11, 12, 13, 14, 15, 16, 17, 18, 19, 20, 21, 6, 22, 23, 24, 25, 26, 27, 28, 29, 30, 31, 32, 33, 34, 35, 36, 37, 38, 39, 40, 41, 42, 43, 44, 45, 46, 47, 48, 49, 50, 51, 52, 53, 54, 55, 219, 220, 221, 222, 223, 224, 225, 226, 227, 228, 229, 230, 231, 232, 233, 234, 235, 236, 237, 238, 239, 240, 241, 242, 243, 244, 245, 246, 247, 248, 249, 250, 251, 252, 253, 254, 255, 256, 257, 258, 259] (by decide +kernel) (by decide +kernel)
set_option maxRecDepth 20000 in
theorem gL_claims_X9_count : GoodIn wsL_claims (wsV RL 9 RX9 yX9_count wsX9_count) := goodIn_app (goodIn_of _ (by decide +kernel)) ggL_claims_X9_count
set_option maxRecDepth 20000 in
theorem ggL_claims_X9_customer : GoodIn wsL_claims wsX9_customer := goodIn_r _ [59, 60, 19, 20, 21, 6, 22, 8, 9, 23, 61, 62, 63, 27, 64, 35, 43, 65, 66, 67, 68, 69, 70, 71, 72, 73, 74, 75, 76, 77, 78, 79, 219, 220, 221, 222, 223, 224, 225, 232, 233, 234, 235, 236, 237, 238, 239, 240, 241, 242, 243, 247, 248, 249, 250, 251, 252] (by decide +kernel) (by decide +kernel)
set_option maxRecDepth 20000 in
theorem gL_claims_X9_customer : GoodIn wsL_claims (wsV RL 26 RX9 yX9_customer wsX9_customer) := goodIn_app (goodIn_of _ (by decide +kernel)) ggL_claims_X9_customer
set_option maxRecDepth 20000 in
theorem ggL_claims_X9_claim : GoodIn wsL_claims wsX9_claim := goodIn_r _ [83, 8, 84, 85, 86, 87, 88, 89, 90, 91, 92, 93, 16, 94, 95, 18, 96, 97, 98, 99, 27, 100, 101, 43, 54, 29, 35, 36, 33, 34, 37, 102, 103, 104, 105, 106, 107, 108, 109, 110, 111, 70, 112, 73, 74, 76, 77, 78, 79, 113, 114, 115, 116, 117, 118, 119, 120, 121, 122, 123, 124, 125, 126, 127, 128, 129, 130, 131, 132, 19, 20, 21, 6, 22, 9, 23, 133, 134, 135, 136, 38, 44, 137, 138, 139, 140, 141, 142, 62, 63, 64, 65, 66, 143, 144, 145, 146, 147, 148, 149, 150, 151, 152, 153, 154, 155, 156, 157, 158, 159, 160, 161, 162, 163, 164, 165, 166, 167, 168, 169, 170, 171, 172, 173, 174, 175, 176, 177, 178, 179, 180, 181, 182, 183, 184, 185, 186, 187, 188, 189, 190, 191, 192, 193, 194, 195, 196, 197, 198, 199, 200, 201, 202, 203, 204, 205, 206, 60, 207, 208, 209, 210, 211, 212, 213, 214, 215, 216, 217, 218, 219, 220, 221, 222, 223, 224, 225, 232, 233, 234, 235, 236, 237, 238, 239, 240, 241, 242, 243, 260, 261, 247, 248, 249, 250, 251, 252, 253, 254, 255, 256, 257, 258, 259, 244, 245, 246] (by decide +kernel) (by decide +kernel)
set_option maxRecDepth 20000 in
theorem gL_claims_X9_claim : GoodIn wsL_claims (wsV RL 66 RX9 yX9_claim wsX9_claim) := goodIn_app (goodIn_of _ (by decide +kernel)) ggL_claims_X9_claim
theorem dL_claims_0 : decode cL_claims 0 = .ok (.aload_n 0, 1) := by decide +kernel
theorem dL_claims_1 : decode cL_claims 1 = .ok (.bipush 8, 2) := by decide +kernel
theorem dL_claims_3 : decode cL_claims 3 = .ok (.invokevirtual 9, 3) := by decide +kernel
theorem dL_claims_6 : decode cL_claims 6 = .ok (.istore_n 3, 1) := by decide +kernel
theorem dL_claims_7 : decode cL_claims 7 = .ok (.aload_n 0, 1) := by decide +kernel
theorem dL_claims_8 : decode cL_claims 8 = .ok (.iload_n 1, 1) := by decide +kernel
theorem dL_claims_9 : decode cL_claims 9 = .ok (.iconst 2, 1) := by decide +kernel
theorem dL_claims_10 : decode cL_claims 10 = .ok (.invokevirtual 26, 3) := by decide +kernel
theorem dL_claims_13 : decode cL_claims 13 = .ok (.istore 4, 2) := by decide +kernel
theorem dL_claims_15 : decode cL_claims 15 = .ok (.aload_n 0, 1) := by decide +kernel
theorem dL_claims_16 : decode cL_claims 16 = .ok (.iload_n 1, 1) := by decide +kernel
theorem dL_claims_17 : decode cL_claims 17 = .ok (.iconst 4, 1) := by decide +kernel
theorem dL_claims_18 : decode cL_claims 18 = .ok (.invokevirtual 26, 3) := by decide +kernel
theorem dL_claims_21 : decode cL_claims 21 = .ok (.istore 5, 2) := by decide +kernel
theorem dL_claims_23 : decode cL_claims 23 = .ok (.iload 4, 2) := by decide +kernel
theorem dL_claims_25 : decode cL_claims 25 = .ok (.ifCond .ge 10, 3) := by decide +kernel
theorem dL_claims_28 : decode cL_claims 28 = .ok (.iload_n 2, 1) := by decide +kernel
theorem dL_claims_29 : decode cL_claims 29 = .ok (.bipush 9, 2) := by decide +kernel
theorem dL_claims_31 : decode cL_claims 31 = .ok (.irem, 1) := by decide +kernel
theorem dL_claims_32 : decode cL_claims 32 = .ok (.goto 23, 3) := by decide +kernel
theorem dL_claims_35 : decode cL_claims 35 = .ok (.iload_n 2, 1) := by decide +kernel
theorem dL_claims_36 : decode cL_claims 36 = .ok (.iconst 2, 1) := by decide +kernel
theorem dL_claims_37 : decode cL_claims 37 = .ok (.irem, 1) := by decide +kernel
theorem dL_claims_38 : decode cL_claims 38 = .ok (.ifCond .ne 8, 3) := by decide +kernel
theorem dL_claims_41 : decode cL_claims 41 = .ok (.iload 4, 2) := by decide +kernel
theorem dL_claims_43 : decode cL_claims 43 = .ok (.goto 12, 3) := by decide +kernel
theorem dL_claims_46 : decode cL_claims 46 = .ok (.iload 5, 2) := by decide +kernel
theorem dL_claims_48 : decode cL_claims 48 = .ok (.iload_n 2, 1) := by decide +kernel
theorem dL_claims_49 : decode cL_claims 49 = .ok (.iconst 2, 1) := by decide +kernel
theorem dL_claims_50 : decode cL_claims 50 = .ok (.idiv, 1) := by decide +kernel
theorem dL_claims_51 : decode cL_claims 51 = .ok (.bipush 7, 2) := by decide +kernel
theorem dL_claims_53 : decode cL_claims 53 = .ok (.irem, 1) := by decide +kernel
theorem dL_claims_54 : decode cL_claims 54 = .ok (.iadd, 1) := by decide +kernel
theorem dL_claims_55 : decode cL_claims 55 = .ok (.istore 6, 2) := by decide +kernel
theorem dL_claims_57 : decode cL_claims 57 = .ok (.aload_n 0, 1) := by decide +kernel
theorem dL_claims_58 : decode cL_claims 58 = .ok (.iload_n 1, 1) := by decide +kernel
theorem dL_claims_59 : decode cL_claims 59 = .ok (.iload 6, 2) := by decide +kernel
theorem dL_claims_61 : decode cL_claims 61 = .ok (.invokevirtual 66, 3) := by decide +kernel
theorem dL_claims_64 : decode cL_claims 64 = .ok (.istore 7, 2) := by decide +kernel
theorem dL_claims_66 : decode cL_claims 66 = .ok (.iload 4, 2) := by decide +kernel
theorem dL_claims_68 : decode cL_claims 68 = .ok (.ifCond .lt 10, 3) := by decide +kernel
theorem dL_claims_71 : decode cL_claims 71 = .ok (.iload 6, 2) := by decide +kernel
theorem dL_claims_73 : decode cL_claims 73 = .ok (.iload 5, 2) := by decide +kernel
theorem dL_claims_75 : decode cL_claims 75 = .ok (.if_icmp .ne 26, 3) := by decide +kernel
theorem dL_claims_78 : decode cL_claims 78 = .ok (.iload 7, 2) := by decide +kernel
theorem dL_claims_80 : decode cL_claims 80 = .ok (.ldc 69, 2) := by decide +kernel
theorem dL_claims_82 : decode cL_claims 82 = .ok (.if_icmp .ne 17, 3) := by decide +kernel
theorem dL_claims_85 : decode cL_claims 85 = .ok (.aload_n 0, 1) := by decide +kernel
theorem dL_claims_86 : decode cL_claims 86 = .ok (.bipush 8, 2) := by decide +kernel
theorem dL_claims_88 : decode cL_claims 88 = .ok (.invokevirtual 9, 3) := by decide +kernel
theorem dL_claims_91 : decode cL_claims 91 = .ok (.iload_n 3, 1) := by decide +kernel
theorem dL_claims_92 : decode cL_claims 92 = .ok (.if_icmp .ne 7, 3) := by decide +kernel
theorem dL_claims_95 : decode cL_claims 95 = .ok (.iconst 1, 1) := by decide +kernel
theorem dL_claims_96 : decode cL_claims 96 = .ok (.goto 4, 3) := by decide +kernel
theorem dL_claims_99 : decode cL_claims 99 = .ok (.iconst 0, 1) := by decide +kernel
theorem dL_claims_100 : decode cL_claims 100 = .ok (.ireturn, 1) := by decide +kernel
theorem dL_claims_101 : decode cL_claims 101 = .ok (.iload 7, 2) := by decide +kernel
theorem dL_claims_103 : decode cL_claims 103 = .ok (.ifCond .lt 62, 3) := by decide +kernel
theorem dL_claims_106 : decode cL_claims 106 = .ok (.iload 7, 2) := by decide +kernel
theorem dL_claims_108 : decode cL_claims 108 = .ok (.iconst 2, 1) := by decide +kernel
theorem dL_claims_109 : decode cL_claims 109 = .ok (.if_icmp .gt 56, 3) := by decide +kernel
theorem dL_claims_112 : decode cL_claims 112 = .ok (.aload_n 0, 1) := by decide +kernel
theorem dL_claims_113 : decode cL_claims 113 = .ok (.iload_n 1, 1) := by decide +kernel
theorem dL_claims_114 : decode cL_claims 114 = .ok (.iconst 1, 1) := by decide +kernel
theorem dL_claims_115 : decode cL_claims 115 = .ok (.invokevirtual 26, 3) := by decide +kernel
theorem dL_claims_118 : decode cL_claims 118 = .ok (.ldc 22, 2) := by decide +kernel
theorem dL_claims_120 : decode cL_claims 120 = .ok (.if_icmp .ne 45, 3) := by decide +kernel
theorem dL_claims_123 : decode cL_claims 123 = .ok (.aload_n 0, 1) := by decide +kernel
theorem dL_claims_124 : decode cL_claims 124 = .ok (.bipush 8, 2) := by decide +kernel
theorem dL_claims_126 : decode cL_claims 126 = .ok (.invokevirtual 9, 3) := by decide +kernel
theorem dL_claims_129 : decode cL_claims 129 = .ok (.iload 7, 2) := by decide +kernel
theorem dL_claims_131 : decode cL_claims 131 = .ok (.ifCond .ne 7, 3) := by decide +kernel
theorem dL_claims_134 : decode cL_claims 134 = .ok (.iload_n 3, 1) := by decide +kernel
theorem dL_claims_135 : decode cL_claims 135 = .ok (.goto 10, 3) := by decide +kernel
theorem dL_claims_138 : decode cL_claims 138 = .ok (.iload_n 3, 1) := by decide +kernel
