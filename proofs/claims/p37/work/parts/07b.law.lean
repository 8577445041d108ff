theorem dL_reading_139 : decode cL_reading 139 = .ok (.iconst 0, 1) := by decide +kernel
theorem dL_reading_140 : decode cL_reading 140 = .ok (.ireturn, 1) := by decide +kernel
theorem dL_reading_141 : decode cL_reading 141 = .ok (.aload_n 0, 1) := by decide +kernel
theorem dL_reading_142 : decode cL_reading 142 = .ok (.iload 4, 2) := by decide +kernel
theorem dL_reading_144 : decode cL_reading 144 = .ok (.iload_n 2, 1) := by decide +kernel
theorem dL_reading_145 : decode cL_reading 145 = .ok (.iconst 0, 1) := by decide +kernel
theorem dL_reading_146 : decode cL_reading 146 = .ok (.invokevirtual 23, 3) := by decide +kernel
theorem dL_reading_149 : decode cL_reading 149 = .ok (.istore 9, 2) := by decide +kernel
theorem dL_reading_151 : decode cL_reading 151 = .ok (.aload_n 0, 1) := by decide +kernel
theorem dL_reading_152 : decode cL_reading 152 = .ok (.iload 4, 2) := by decide +kernel
theorem dL_reading_154 : decode cL_reading 154 = .ok (.iload_n 2, 1) := by decide +kernel
theorem dL_reading_155 : decode cL_reading 155 = .ok (.iconst 3, 1) := by decide +kernel
theorem dL_reading_156 : decode cL_reading 156 = .ok (.invokevirtual 23, 3) := by decide +kernel
theorem dL_reading_159 : decode cL_reading 159 = .ok (.istore 10, 2) := by decide +kernel
theorem dL_reading_161 : decode cL_reading 161 = .ok (.iload 8, 2) := by decide +kernel
theorem dL_reading_163 : decode cL_reading 163 = .ok (.ifCond .eq 78, 3) := by decide +kernel
theorem dL_reading_166 : decode cL_reading 166 = .ok (.iload 7, 2) := by decide +kernel
theorem dL_reading_168 : decode cL_reading 168 = .ok (.iload 6, 2) := by decide +kernel
theorem dL_reading_170 : decode cL_reading 170 = .ok (.iload 5, 2) := by decide +kernel
theorem dL_reading_172 : decode cL_reading 172 = .ok (.isub, 1) := by decide +kernel
theorem dL_reading_173 : decode cL_reading 173 = .ok (.iconst 1, 1) := by decide +kernel
theorem dL_reading_174 : decode cL_reading 174 = .ok (.iadd, 1) := by decide +kernel
theorem dL_reading_175 : decode cL_reading 175 = .ok (.if_icmp .ne 66, 3) := by decide +kernel
theorem dL_reading_178 : decode cL_reading 178 = .ok (.iload 5, 2) := by decide +kernel
theorem dL_reading_180 : decode cL_reading 180 = .ok (.ifCond .lt 61, 3) := by decide +kernel
theorem dL_reading_183 : decode cL_reading 183 = .ok (.aload_n 0, 1) := by decide +kernel
theorem dL_reading_184 : decode cL_reading 184 = .ok (.iload 4, 2) := by decide +kernel
theorem dL_reading_186 : decode cL_reading 186 = .ok (.iload_n 2, 1) := by decide +kernel
theorem dL_reading_187 : decode cL_reading 187 = .ok (.iconst 1, 1) := by decide +kernel
theorem dL_reading_188 : decode cL_reading 188 = .ok (.invokevirtual 23, 3) := by decide +kernel
theorem dL_reading_191 : decode cL_reading 191 = .ok (.iload 5, 2) := by decide +kernel
theorem dL_reading_193 : decode cL_reading 193 = .ok (.if_icmp .ne 48, 3) := by decide +kernel
theorem dL_reading_196 : decode cL_reading 196 = .ok (.aload_n 0, 1) := by decide +kernel
theorem dL_reading_197 : decode cL_reading 197 = .ok (.iload 4, 2) := by decide +kernel
theorem dL_reading_199 : decode cL_reading 199 = .ok (.iload_n 2, 1) := by decide +kernel
theorem dL_reading_200 : decode cL_reading 200 = .ok (.iconst 2, 1) := by decide +kernel
theorem dL_reading_201 : decode cL_reading 201 = .ok (.invokevirtual 23, 3) := by decide +kernel
theorem dL_reading_204 : decode cL_reading 204 = .ok (.iload 6, 2) := by decide +kernel
theorem dL_reading_206 : decode cL_reading 206 = .ok (.if_icmp .ne 35, 3) := by decide +kernel
theorem dL_reading_209 : decode cL_reading 209 = .ok (.iload 9, 2) := by decide +kernel
theorem dL_reading_211 : decode cL_reading 211 = .ok (.iload 5, 2) := by decide +kernel
theorem dL_reading_213 : decode cL_reading 213 = .ok (.if_icmp .lt 28, 3) := by decide +kernel
theorem dL_reading_216 : decode cL_reading 216 = .ok (.iload 9, 2) := by decide +kernel
theorem dL_reading_218 : decode cL_reading 218 = .ok (.iload 6, 2) := by decide +kernel
theorem dL_reading_220 : decode cL_reading 220 = .ok (.if_icmp .gt 21, 3) := by decide +kernel
theorem dL_reading_223 : decode cL_reading 223 = .ok (.iload 10, 2) := by decide +kernel
theorem dL_reading_225 : decode cL_reading 225 = .ok (.iload 5, 2) := by decide +kernel
theorem dL_reading_227 : decode cL_reading 227 = .ok (.if_icmp .lt 14, 3) := by decide +kernel
theorem dL_reading_230 : decode cL_reading 230 = .ok (.iload 10, 2) := by decide +kernel
theorem dL_reading_232 : decode cL_reading 232 = .ok (.iload 6, 2) := by decide +kernel
theorem dL_reading_234 : decode cL_reading 234 = .ok (.if_icmp .gt 7, 3) := by decide +kernel
theorem dL_reading_237 : decode cL_reading 237 = .ok (.iconst 1, 1) := by decide +kernel
theorem dL_reading_238 : decode cL_reading 238 = .ok (.goto 4, 3) := by decide +kernel
theorem dL_reading_241 : decode cL_reading 241 = .ok (.iconst 0, 1) := by decide +kernel
theorem dL_reading_242 : decode cL_reading 242 = .ok (.ireturn, 1) := by decide +kernel
set_option maxRecDepth 20000 in
theorem ggL_holds_X9_count : GoodIn wsL_holds wsX9_count := goodIn_r _ [7, 8, 9, 10, 11, 12, 13, 14, 15, 16, 17, 18, 19, 20, 21, 6, 22, 23, 24, 25, 26, 27, 28, 29, 30, 31, 32, 33, 34, 35, 36, 37, 38, 39, 40, 41, 42, 43, 44, 45, 46, 47, 48, 49, 50, 51, 52, 53, 54, 55, 229, 230, 231, 232, 233, 234, 235, 236, 237, 238, 239, 240, 241, 242, 243, 244, 245, 246, 247, 248, 249, 250, 251, 252, 253, 254, 255, 256, 257, 258, 259, 260, 261, 262, 263, 264, 265, 266, 267, 268, 269] (by decide +kernel) (by decide +kernel)
set_option maxRecDepth 20000 in
theorem gL_holds_X9_count : GoodIn wsL_holds (wsV RL 9 RX9 yX9_count wsX9_count) := goodIn_app (goodIn_of _ (by decide +kernel)) ggL_holds_X9_count
set_option maxRecDepth 20000 in
theorem ggL_holds_X9_customer : GoodIn wsL_holds wsX9_customer := goodIn_r _ [59, 60, 19, 20, 21, 6, 22, 8, 9, 23, 61, 62, 63, 27, 64, 35, 43, 65, 66, 67, 68, 69, 70, 71, 72, 73, 74, 75, 76, 77, 78, 79, 229, 230, 231, 232, 233, 234, 235, 242, 243, 244, 245, 246, 247, 248, 249, 250, 251, 252, 253, 257, 258, 259, 260, 261, 262] (by decide +kernel) (by decide +kernel)
set_option maxRecDepth 20000 in
theorem gL_holds_X9_customer : GoodIn wsL_holds (wsV RL 26 RX9 yX9_customer wsX9_customer) := goodIn_app (goodIn_of _ (by decide +kernel)) ggL_holds_X9_customer
set_option maxRecDepth 20000 in
theorem ggL_holds_X9_shop : GoodIn wsL_holds wsX9_shop := goodIn_r _ [83, 60, 84, 19, 20, 21, 6, 22, 8, 9, 23, 61, 62, 63, 27, 64, 35, 43, 65, 66, 85, 86, 87, 88, 89, 55, 90, 91, 92, 93, 94, 95, 96, 97, 98, 99, 36, 100, 101, 102, 103, 104, 105, 106, 107, 54, 108, 109, 110, 111, 112, 113, 257, 258, 259, 260, 261, 262, 229, 230, 231, 232, 233, 234, 235, 242, 243, 244, 245, 246, 247, 248, 249, 250, 251, 252, 253, 263, 264, 265, 266, 267, 268, 269] (by decide +kernel) (by decide +kernel)
set_option maxRecDepth 20000 in
theorem gL_holds_X9_shop : GoodIn wsL_holds (wsV RL 30 RX9 yX9_shop wsX9_shop) := goodIn_app (goodIn_of _ (by decide +kernel)) ggL_holds_X9_shop
set_option maxRecDepth 20000 in
theorem ggL_holds_X9_prize : GoodIn wsL_holds wsX9_prize := goodIn_r _ [117, 60, 19, 20, 21, 6, 22, 8, 9, 23, 118, 105, 106, 27, 107, 36, 54, 65, 66, 119, 120, 121, 122, 123, 124, 125, 126, 127, 128, 129, 130, 131, 229, 230, 231, 232, 233, 234, 235, 242, 243, 244, 245, 246, 247, 248, 249, 250, 251, 252, 253, 263, 264, 265, 266, 267, 268, 269] (by decide +kernel) (by decide +kernel)
set_option maxRecDepth 20000 in
theorem gL_holds_X9_prize : GoodIn wsL_holds (wsV RL 33 RX9 yX9_prize wsX9_prize) := goodIn_app (goodIn_of _ (by decide +kernel)) ggL_holds_X9_prize
set_option maxRecDepth 20000 in
theorem ggL_holds_X9_soldOut : GoodIn wsL_holds wsX9_soldOut := goodIn_r _ [135, 60, 136, 19, 20, 21, 6, 22, 8, 9, 23, 118, 105, 106, 27, 107, 36, 54, 65, 66, 137, 138, 139, 122, 140, 124, 125, 126, 127, 128, 129, 130, 141, 142, 143, 144, 145, 146, 147, 148, 149, 150, 92, 93, 94, 108, 109, 110, 111, 112, 113, 229, 230, 231, 232, 233, 234, 235, 242, 243, 244, 245, 246, 247, 248, 249, 250, 251, 252, 253, 263, 264, 265, 266, 267, 268, 269] (by decide +kernel) (by decide +kernel)
set_option maxRecDepth 20000 in
theorem gL_holds_X9_soldOut : GoodIn wsL_holds (wsV RL 36 RX9 yX9_soldOut wsX9_soldOut) := goodIn_app (goodIn_of _ (by decide +kernel)) ggL_holds_X9_soldOut
set_option maxRecDepth 20000 in
theorem ggL_holds_X9_fairest : GoodIn wsL_holds wsX9_fairest := goodIn_r _ [154, 19, 20, 21, 6, 22, 8, 9, 23, 155, 156, 157, 27, 158, 159, 160, 161, 162, 93, 163, 164, 165, 166, 167, 43, 44, 168, 29, 169, 170, 171, 172, 173, 174, 175, 65, 66, 176, 177, 178, 179, 180, 181, 182, 183, 92, 94, 184, 185, 186, 187, 188, 189, 190, 191, 192, 193, 194, 195, 196, 197, 198, 199, 200, 201, 202, 203, 108, 109, 110, 111, 112, 113, 204, 205, 206, 207, 208, 209, 210, 211, 212, 213, 214, 215, 216, 217, 218, 219, 220, 221, 222, 223, 229, 230, 231, 232, 233, 234, 235, 242, 243, 244, 245, 246, 247, 248, 249, 250, 251, 252, 253, 257, 258, 259, 260, 261, 262, 270, 271, 254, 255, 256] (by decide +kernel) (by decide +kernel)
set_option maxRecDepth 20000 in
theorem gL_holds_X9_fairest : GoodIn wsL_holds (wsV RL 39 RX9 yX9_fairest wsX9_fairest) := goodIn_app (goodIn_of _ (by decide +kernel)) ggL_holds_X9_fairest
set_option maxRecDepth 20000 in
theorem ggL_holds_X9_would : GoodIn wsL_holds wsX9_would := goodIn_r _ [227, 60, 85, 65, 6, 66, 19, 20, 21, 22, 8, 9, 23, 228, 165, 166, 27, 167, 160, 43, 44, 168, 159, 29, 169, 170, 171, 172, 173, 174, 175, 176, 177, 178, 179, 180, 181, 182, 183, 92, 93, 94, 184, 185, 186, 187, 188, 189, 190, 191, 192, 193, 194, 195, 196, 197, 198, 199, 200, 201, 202, 203, 108, 109, 110, 111, 112, 113, 204, 205, 206, 207, 208, 209, 210, 211, 212, 213, 214, 215, 216, 217, 218, 219, 220, 221, 222, 223, 229, 230, 231, 232, 233, 234, 235, 242, 243, 244, 245, 246, 247, 248, 249, 250, 251, 252, 253, 257, 258, 259, 260, 261, 262, 270, 271, 254, 255, 256] (by decide +kernel) (by decide +kernel)
set_option maxRecDepth 20000 in
theorem gL_holds_X9_would : GoodIn wsL_holds (wsV RL 43 RX9 yX9_would wsX9_would) := goodIn_app (goodIn_of _ (by decide +kernel)) ggL_holds_X9_would
theorem dL_holds_0 : decode cL_holds 0 = .ok (.iconst 0, 1) := by decide +kernel
theorem dL_holds_1 : decode cL_holds 1 = .ok (.istore_n 1, 1) := by decide +kernel
theorem dL_holds_2 : decode cL_holds 2 = .ok (.iconst 0, 1) := by decide +kernel
theorem dL_holds_3 : decode cL_holds 3 = .ok (.istore_n 2, 1) := by decide +kernel
theorem dL_holds_4 : decode cL_holds 4 = .ok (.iconst 0, 1) := by decide +kernel
theorem dL_holds_5 : decode cL_holds 5 = .ok (.istore_n 3, 1) := by decide +kernel
theorem dL_holds_6 : decode cL_holds 6 = .ok (.iconst 1, 1) := by decide +kernel
theorem dL_holds_7 : decode cL_holds 7 = .ok (.istore 4, 2) := by decide +kernel
theorem dL_holds_9 : decode cL_holds 9 = .ok (.iconst 0, 1) := by decide +kernel
theorem dL_holds_10 : decode cL_holds 10 = .ok (.istore 5, 2) := by decide +kernel
theorem dL_holds_12 : decode cL_holds 12 = .ok (.iload 5, 2) := by decide +kernel
theorem dL_holds_14 : decode cL_holds 14 = .ok (.aload_n 0, 1) := by decide +kernel
theorem dL_holds_15 : decode cL_holds 15 = .ok (.iconst 5, 1) := by decide +kernel
theorem dL_holds_16 : decode cL_holds 16 = .ok (.invokevirtual 9, 3) := by decide +kernel
theorem dL_holds_19 : decode cL_holds 19 = .ok (.if_icmp .ge 119, 3) := by decide +kernel
theorem dL_holds_22 : decode cL_holds 22 = .ok (.iload 4, 2) := by decide +kernel
theorem dL_holds_24 : decode cL_holds 24 = .ok (.ifCond .eq 114, 3) := by decide +kernel
theorem dL_holds_27 : decode cL_holds 27 = .ok (.iload_n 1, 1) := by decide +kernel
theorem dL_holds_28 : decode cL_holds 28 = .ok (.aload_n 0, 1) := by decide +kernel
theorem dL_holds_29 : decode cL_holds 29 = .ok (.iload 5, 2) := by decide +kernel
theorem dL_holds_31 : decode cL_holds 31 = .ok (.iconst 0, 1) := by decide +kernel
theorem dL_holds_32 : decode cL_holds 32 = .ok (.invokevirtual 26, 3) := by decide +kernel
theorem dL_holds_35 : decode cL_holds 35 = .ok (.iadd, 1) := by decide +kernel
theorem dL_holds_36 : decode cL_holds 36 = .ok (.istore_n 1, 1) := by decide +kernel
theorem dL_holds_37 : decode cL_holds 37 = .ok (.iload_n 3, 1) := by decide +kernel
theorem dL_holds_38 : decode cL_holds 38 = .ok (.aload_n 0, 1) := by decide +kernel
theorem dL_holds_39 : decode cL_holds 39 = .ok (.iload 5, 2) := by decide +kernel
