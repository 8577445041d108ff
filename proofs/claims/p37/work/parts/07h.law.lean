theorem dL_claims_139 : decode cL_claims 139 = .ok (.iload 4, 2) := by decide +kernel
theorem dL_claims_141 : decode cL_claims 141 = .ok (.iadd, 1) := by decide +kernel
theorem dL_claims_142 : decode cL_claims 142 = .ok (.iload 5, 2) := by decide +kernel
theorem dL_claims_144 : decode cL_claims 144 = .ok (.isub, 1) := by decide +kernel
theorem dL_claims_145 : decode cL_claims 145 = .ok (.if_icmp .ne 20, 3) := by decide +kernel
theorem dL_claims_148 : decode cL_claims 148 = .ok (.iload 7, 2) := by decide +kernel
theorem dL_claims_150 : decode cL_claims 150 = .ok (.iconst 1, 1) := by decide +kernel
theorem dL_claims_151 : decode cL_claims 151 = .ok (.if_icmp .ne 10, 3) := by decide +kernel
theorem dL_claims_154 : decode cL_claims 154 = .ok (.iload 6, 2) := by decide +kernel
theorem dL_claims_156 : decode cL_claims 156 = .ok (.iload 5, 2) := by decide +kernel
theorem dL_claims_158 : decode cL_claims 158 = .ok (.if_icmp .eq 7, 3) := by decide +kernel
theorem dL_claims_161 : decode cL_claims 161 = .ok (.iconst 1, 1) := by decide +kernel
theorem dL_claims_162 : decode cL_claims 162 = .ok (.goto 4, 3) := by decide +kernel
theorem dL_claims_165 : decode cL_claims 165 = .ok (.iconst 0, 1) := by decide +kernel
theorem dL_claims_166 : decode cL_claims 166 = .ok (.ireturn, 1) := by decide +kernel
set_option maxRecDepth 20000 in
theorem ggL_law_X9_init_p0 : GoodIn wsL_law (.code yX9_init cX9_init 1 none :: wsX9_init_r1) := goodIn_r _ [11, 12, 13, 14, 15, 16, 17, 18, 19, 20, 21, 22, 23, 24, 25, 26, 27, 28, 29, 30, 31, 32, 33, 34, 35] (by decide +kernel) (by decide +kernel)
set_option maxRecDepth 20000 in
theorem ggL_law_X9_init_p1 : GoodIn wsL_law (wsX9_init_r2) := goodIn_r _ [36, 37, 38, 39, 40, 41, 42, 43, 44, 45, 46, 47, 48, 49, 50, 51, 52, 53, 54, 55, 56, 57, 58, 59] (by decide +kernel) (by decide +kernel)
set_option maxRecDepth 20000 in
theorem ggL_law_X9_init_p2 : GoodIn wsL_law (wsX9_init_r3) := goodIn_r _ [60, 61, 62, 63, 64, 65, 66, 67, 68, 69, 70, 71, 72, 73, 74, 75, 76, 77, 78, 79, 80, 81, 82, 83] (by decide +kernel) (by decide +kernel)
set_option maxRecDepth 20000 in
theorem ggL_law_X9_init_p3 : GoodIn wsL_law (wsX9_init_r4) := goodIn_r _ [84, 85, 86, 87, 88, 89, 90, 91, 92, 93, 94, 95, 96] (by decide +kernel) (by decide +kernel)
set_option maxRecDepth 20000 in
theorem ggL_law_X9_init_t0 : GoodIn wsL_law (wsX30) := goodIn_r _ [562, 563, 564, 565] (by decide +kernel) (by decide +kernel)
set_option maxRecDepth 20000 in
theorem ggL_law_X9_init_t1 : GoodIn wsL_law (wsX90) := goodIn_r _ [559, 560, 561] (by decide +kernel) (by decide +kernel)
set_option maxRecDepth 20000 in
theorem ggL_law_X9_init_t2 : GoodIn wsL_law (wsX60) := goodIn_r _ [566, 567, 568, 569, 570, 571] (by decide +kernel) (by decide +kernel)
set_option maxRecDepth 20000 in
theorem ggL_law_X9_init_t3 : GoodIn wsL_law (wsX50) := goodIn_r _ [572, 573, 574, 575, 576, 577, 578] (by decide +kernel) (by decide +kernel)
set_option maxRecDepth 20000 in
theorem ggL_law_X9_init_t4 : GoodIn wsL_law (wsX80) := goodIn_r _ [579, 580, 581] (by decide +kernel) (by decide +kernel)
set_option maxRecDepth 20000 in
theorem ggL_law_X9_init_t5 : GoodIn wsL_law (wsX00) := goodIn_r _ [582, 583, 584, 585, 586, 587, 588, 589, 590] (by decide +kernel) (by decide +kernel)
set_option maxRecDepth 20000 in
theorem ggL_law_X9_init_t6 : GoodIn wsL_law (wsX70) := goodIn_r _ [591, 592, 593] (by decide +kernel) (by decide +kernel)
set_option maxRecDepth 20000 in
theorem ggL_law_X9_init_t7 : GoodIn wsL_law (wsX40) := goodIn_r _ [594, 595] (by decide +kernel) (by decide +kernel)
set_option maxRecDepth 20000 in
theorem ggL_law_X9_init_t8 : GoodIn wsL_law (wsX10) := goodIn_r _ [596, 597, 598, 599, 600, 601] (by decide +kernel) (by decide +kernel)
set_option maxRecDepth 20000 in
theorem ggL_law_X9_init_t9 : GoodIn wsL_law (wsX20) := goodIn_r _ [602, 603, 604, 605] (by decide +kernel) (by decide +kernel)
theorem ggL_law_X9_init : GoodIn wsL_law wsX9_init := (goodIn_ca (goodIn_ca (goodIn_ca (goodIn_ca (goodIn_ca (goodIn_ca (goodIn_ca (goodIn_ca (goodIn_ca (goodIn_ca (goodIn_ca ggL_law_X9_init_p0 (goodIn_app ggL_law_X9_init_p1 (goodIn_app ggL_law_X9_init_p2 ggL_law_X9_init_p3))) ggL_law_X9_init_t0) ggL_law_X9_init_t1) ggL_law_X9_init_t2) ggL_law_X9_init_t3) ggL_law_X9_init_t4) ggL_law_X9_init_t5) ggL_law_X9_init_t6) ggL_law_X9_init_t7) ggL_law_X9_init_t8) ggL_law_X9_init_t9)
set_option maxRecDepth 20000 in
theorem gL_law_X9_init : GoodIn wsL_law (wsX9_init) := ggL_law_X9_init
set_option maxRecDepth 20000 in
theorem ggL_law_L_holds_p0 : GoodIn wsL_law (.code yL_holds cL_holds 9 (some .boolean) :: wsL_holds_r1) := goodIn_r _ [100, 8, 7, 101, 102, 103, 2, 104, 18, 105, 106, 22, 107, 108, 109, 110, 34, 111, 47, 112, 113, 114, 115, 116, 117] (by decide +kernel) (by decide +kernel)
set_option maxRecDepth 20000 in
theorem ggL_law_L_holds_p1 : GoodIn wsL_law (wsL_holds_r2) := goodIn_r _ [118, 119, 43, 120, 57, 121, 122, 123, 124, 62, 125, 126, 127, 128, 129, 130, 131, 132, 59, 133, 134, 135, 136, 137] (by decide +kernel) (by decide +kernel)
set_option maxRecDepth 20000 in
theorem ggL_law_L_holds_p2 : GoodIn wsL_law (wsL_holds_r3) := goodIn_r _ [138, 139, 140, 141, 142, 61, 143, 144, 145, 146, 147, 148, 149, 150, 151, 152, 153, 154, 155, 156, 157, 66, 158, 159] (by decide +kernel) (by decide +kernel)
set_option maxRecDepth 20000 in
theorem ggL_law_L_holds_p3 : GoodIn wsL_law (wsL_holds_r4) := goodIn_r _ [160, 161, 162, 163, 164, 165, 166, 167, 168, 169, 170, 171, 172, 173, 174, 175, 176, 177, 178, 179, 180, 181, 182, 183] (by decide +kernel) (by decide +kernel)
set_option maxRecDepth 20000 in
theorem ggL_law_L_holds_p4 : GoodIn wsL_law (wsL_holds_r5) := goodIn_r _ [184, 185, 186, 187, 188, 189, 190, 191, 192, 193, 194, 195, 196, 197, 198, 199, 200, 201, 202, 203, 204, 205, 206, 207] (by decide +kernel) (by decide +kernel)
set_option maxRecDepth 20000 in
theorem ggL_law_L_holds_p5 : GoodIn wsL_law (wsL_holds_r6) := goodIn_r _ [208, 25, 209, 210, 211, 212, 213, 214, 215, 216, 217, 218, 219, 220, 221, 26, 222, 223, 224, 225, 226, 227, 228, 229] (by decide +kernel) (by decide +kernel)
set_option maxRecDepth 20000 in
theorem ggL_law_L_holds_p6 : GoodIn wsL_law (wsL_holds_r7) := goodIn_r _ [230, 231, 232, 233, 234, 235, 236, 237, 238, 239, 240, 241, 242, 243, 244, 245, 246, 247, 248, 249, 250, 251, 252, 253] (by decide +kernel) (by decide +kernel)
set_option maxRecDepth 20000 in
theorem ggL_law_L_holds_p7 : GoodIn wsL_law (wsL_holds_r8) := goodIn_r _ [254, 255, 256, 257, 258, 259, 53, 260, 261, 262, 56, 263, 264, 265, 266, 267, 268, 269, 270, 271, 272, 273, 71, 274] (by decide +kernel) (by decide +kernel)
set_option maxRecDepth 20000 in
theorem ggL_law_L_holds_p8 : GoodIn wsL_law (wsL_holds_r9) := goodIn_r _ [275, 276, 64, 277, 75, 76, 278, 279, 280, 281, 70, 282, 283, 284, 285, 286, 287, 288, 289, 290, 291, 292, 293, 294] (by decide +kernel) (by decide +kernel)
set_option maxRecDepth 20000 in
theorem ggL_law_L_holds_p9 : GoodIn wsL_law (wsL_holds_r10) := goodIn_r _ [295, 296, 297, 298, 299, 300, 301, 302, 303, 304, 305, 306] (by decide +kernel) (by decide +kernel)
set_option maxRecDepth 20000 in
theorem ggL_law_L_holds_t0 : GoodIn wsL_law (wsX90) := goodIn_r _ [559, 560, 561] (by decide +kernel) (by decide +kernel)
set_option maxRecDepth 20000 in
theorem ggL_law_L_holds_t1 : GoodIn wsL_law (wsX30) := goodIn_r _ [562, 563, 564, 565] (by decide +kernel) (by decide +kernel)
set_option maxRecDepth 20000 in
theorem ggL_law_L_holds_t2 : GoodIn wsL_law (wsX60) := goodIn_r _ [566, 567, 568, 569, 570, 571] (by decide +kernel) (by decide +kernel)
set_option maxRecDepth 20000 in
theorem ggL_law_L_holds_t3 : GoodIn wsL_law (wsX80) := goodIn_r _ [579, 580, 581] (by decide +kernel) (by decide +kernel)
set_option maxRecDepth 20000 in
theorem ggL_law_L_holds_t4 : GoodIn wsL_law (wsX00) := goodIn_r _ [582, 583, 584, 585, 586, 587, 588, 589, 590] (by decide +kernel) (by decide +kernel)
set_option maxRecDepth 20000 in
theorem ggL_law_L_holds_t5 : GoodIn wsL_law (wsX70) := goodIn_r _ [591, 592, 593] (by decide +kernel) (by decide +kernel)
