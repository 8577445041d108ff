theorem ggL_law_L_apart : GoodIn wsL_law wsL_apart := (goodIn_ca (goodIn_ca (goodIn_ca (goodIn_ca (goodIn_ca (goodIn_ca (goodIn_ca (goodIn_ca (goodIn_ca (goodIn_ca ggL_law_L_apart_p0 (goodIn_app ggL_law_L_apart_p1 (goodIn_app ggL_law_L_apart_p2 (goodIn_app ggL_law_L_apart_p3 (goodIn_app ggL_law_L_apart_p4 (goodIn_app ggL_law_L_apart_p5 (goodIn_app ggL_law_L_apart_p6 (goodIn_app ggL_law_L_apart_p7 (goodIn_app ggL_law_L_apart_p8 (goodIn_app ggL_law_L_apart_p9 ggL_law_L_apart_p10)))))))))) ggL_law_L_apart_t0) ggL_law_L_apart_t1) ggL_law_L_apart_t2) ggL_law_L_apart_t3) ggL_law_L_apart_t4) ggL_law_L_apart_t5) ggL_law_L_apart_t6) ggL_law_L_apart_t7) ggL_law_L_apart_t8)
set_option maxRecDepth 20000 in
theorem gL_law_L_apart : GoodIn wsL_law (va_wsS RL 95 yL_apart wsL_apart) := goodIn_app (goodIn_of _ (by decide +kernel)) ggL_law_L_apart
set_option maxRecDepth 20000 in
theorem ggL_law_X9_setBias_p0 : GoodIn wsL_law (.code yX9_setBias cX9_setBias 2 (some .int) :: wsX9_setBias_r1) := goodIn_r _ [472, 18, 316, 317, 318, 17, 319, 36, 35, 320, 321, 322, 34, 323, 44, 47, 45, 324, 325, 326, 43, 327, 53, 59, 61] (by decide +kernel) (by decide +kernel)
set_option maxRecDepth 20000 in
theorem ggL_law_X9_setBias_p1 : GoodIn wsL_law (wsX9_setBias_r2) := goodIn_r _ [57, 125, 126, 124, 62, 127, 328, 329, 330, 64, 331, 75, 76, 332, 333, 334, 66, 335, 160, 161, 163, 164, 165, 166] (by decide +kernel) (by decide +kernel)
set_option maxRecDepth 20000 in
theorem ggL_law_X9_setBias_p2 : GoodIn wsL_law (wsX9_setBias_r3) := goodIn_r _ [336, 223, 224, 25, 225, 210, 211, 212, 213, 214, 215, 216, 337, 338, 339, 56, 340, 70, 71, 341, 112, 113, 114, 2] (by decide +kernel) (by decide +kernel)
set_option maxRecDepth 20000 in
theorem ggL_law_X9_setBias_p3 : GoodIn wsL_law (wsX9_setBias_r4) := goodIn_r _ [115, 105, 116, 473, 474, 475, 476, 122, 128, 123, 153, 154, 348, 349, 350, 351, 352, 353, 148, 354, 355, 356, 357, 358] (by decide +kernel) (by decide +kernel)
set_option maxRecDepth 20000 in
theorem ggL_law_X9_setBias_p4 : GoodIn wsL_law (wsX9_setBias_r5) := goodIn_r _ [359, 360, 32, 361, 362, 363, 364] (by decide +kernel) (by decide +kernel)
set_option maxRecDepth 20000 in
theorem ggL_law_X9_setBias_t0 : GoodIn wsL_law (wsX90) := goodIn_r _ [559, 560, 561] (by decide +kernel) (by decide +kernel)
set_option maxRecDepth 20000 in
theorem ggL_law_X9_setBias_t1 : GoodIn wsL_law (wsX30) := goodIn_r _ [562, 563, 564, 565] (by decide +kernel) (by decide +kernel)
set_option maxRecDepth 20000 in
theorem ggL_law_X9_setBias_t2 : GoodIn wsL_law (wsX80) := goodIn_r _ [579, 580, 581] (by decide +kernel) (by decide +kernel)
set_option maxRecDepth 20000 in
theorem ggL_law_X9_setBias_t3 : GoodIn wsL_law (wsX00) := goodIn_r _ [582, 583, 584, 585, 586, 587, 588, 589, 590] (by decide +kernel) (by decide +kernel)
set_option maxRecDepth 20000 in
theorem ggL_law_X9_setBias_t4 : GoodIn wsL_law (wsX40) := goodIn_r _ [594, 595] (by decide +kernel) (by decide +kernel)
set_option maxRecDepth 20000 in
theorem ggL_law_X9_setBias_t5 : GoodIn wsL_law (wsX10) := goodIn_r _ [596, 597, 598, 599, 600, 601] (by decide +kernel) (by decide +kernel)
set_option maxRecDepth 20000 in
theorem ggL_law_X9_setBias_t6 : GoodIn wsL_law (wsX50) := goodIn_r _ [572, 573, 574, 575, 576, 577, 578] (by decide +kernel) (by decide +kernel)
set_option maxRecDepth 20000 in
theorem ggL_law_X9_setBias_t7 : GoodIn wsL_law (wsX70) := goodIn_r _ [591, 592, 593] (by decide +kernel) (by decide +kernel)
theorem ggL_law_X9_setBias : GoodIn wsL_law wsX9_setBias := (goodIn_ca (goodIn_ca (goodIn_ca (goodIn_ca (goodIn_ca (goodIn_ca (goodIn_ca (goodIn_ca (goodIn_ca ggL_law_X9_setBias_p0 (goodIn_app ggL_law_X9_setBias_p1 (goodIn_app ggL_law_X9_setBias_p2 (goodIn_app ggL_law_X9_setBias_p3 ggL_law_X9_setBias_p4)))) ggL_law_X9_setBias_t0) ggL_law_X9_setBias_t1) ggL_law_X9_setBias_t2) ggL_law_X9_setBias_t3) ggL_law_X9_setBias_t4) ggL_law_X9_setBias_t5) ggL_law_X9_setBias_t6) ggL_law_X9_setBias_t7)
set_option maxRecDepth 20000 in
theorem gL_law_X9_setBias : GoodIn wsL_law (wsV RL 99 RX9 yX9_setBias wsX9_setBias) := goodIn_app (goodIn_of _ (by decide +kernel)) ggL_law_X9_setBias
set_option maxRecDepth 20000 in
theorem ggL_law_L_claims_p0 : GoodIn wsL_law (.code yL_claims cL_claims 8 (some .boolean) :: wsL_claims_r1) := goodIn_r _ [479, 4, 7, 101, 102, 103, 2, 104, 18, 105, 106, 22, 107, 108, 109, 110, 34, 111, 47, 112, 113, 114, 115, 116, 117] (by decide +kernel) (by decide +kernel)
set_option maxRecDepth 20000 in
theorem ggL_law_L_claims_p1 : GoodIn wsL_law (wsL_claims_r2) := goodIn_r _ [118, 119, 43, 120, 57, 121, 122, 123, 124, 62, 125, 126, 127, 128, 129, 130, 131, 132, 59, 133, 134, 135, 136, 137] (by decide +kernel) (by decide +kernel)
set_option maxRecDepth 20000 in
theorem ggL_law_L_claims_p2 : GoodIn wsL_law (wsL_claims_r3) := goodIn_r _ [138, 139, 140, 141, 142, 61, 143, 144, 145, 146, 147, 148, 149, 150, 151, 152, 153, 154, 155, 156, 157, 66, 158, 159] (by decide +kernel) (by decide +kernel)
set_option maxRecDepth 20000 in
theorem ggL_law_L_claims_p3 : GoodIn wsL_law (wsL_claims_r4) := goodIn_r _ [160, 161, 162, 163, 164, 165, 166, 480, 481, 482, 483, 316, 317, 318, 17, 319, 36, 35, 320, 321, 322, 323, 44, 45] (by decide +kernel) (by decide +kernel)
set_option maxRecDepth 20000 in
theorem ggL_law_L_claims_p4 : GoodIn wsL_law (wsL_claims_r5) := goodIn_r _ [324, 325, 326, 327, 53, 328, 329, 330, 64, 331, 75, 76, 332, 333, 334, 335, 336, 223, 224, 25, 225, 210, 211, 212] (by decide +kernel) (by decide +kernel)
set_option maxRecDepth 20000 in
theorem ggL_law_L_claims_p5 : GoodIn wsL_law (wsL_claims_r6) := goodIn_r _ [213, 214, 215, 216, 337, 338, 339, 56, 340, 70, 71, 341, 484, 485, 486, 487, 488, 489, 253, 254, 255, 490, 256, 257] (by decide +kernel) (by decide +kernel)
set_option maxRecDepth 20000 in
theorem ggL_law_L_claims_p6 : GoodIn wsL_law (wsL_claims_r7) := goodIn_r _ [258, 259, 491, 492, 493, 494, 495, 271, 272, 273, 267, 268, 180, 269, 274, 275, 276, 277, 278, 279, 280, 281, 195, 196] (by decide +kernel) (by decide +kernel)
set_option maxRecDepth 20000 in
theorem ggL_law_L_claims_p7 : GoodIn wsL_law (wsL_claims_r8) := goodIn_r _ [197, 198, 199, 200, 496, 283, 284, 285, 286, 287, 288, 289, 290, 291, 292, 293, 294, 295, 296, 297, 497, 498, 499, 500] (by decide +kernel) (by decide +kernel)
set_option maxRecDepth 20000 in
theorem ggL_law_L_claims_p8 : GoodIn wsL_law (wsL_claims_r9) := goodIn_r _ [501, 502, 503, 504, 505, 506, 247, 248, 348, 349, 350, 351, 352, 353, 354, 355, 356, 357, 358, 359, 360, 32, 361, 362] (by decide +kernel) (by decide +kernel)
set_option maxRecDepth 20000 in
theorem ggL_law_L_claims_p9 : GoodIn wsL_law (wsL_claims_r10) := goodIn_r _ [363, 364] (by decide +kernel) (by decide +kernel)
set_option maxRecDepth 20000 in
theorem ggL_law_L_claims_t0 : GoodIn wsL_law (wsX90) := goodIn_r _ [559, 560, 561] (by decide +kernel) (by decide +kernel)
set_option maxRecDepth 20000 in
theorem ggL_law_L_claims_t1 : GoodIn wsL_law (wsX30) := goodIn_r _ [562, 563, 564, 565] (by decide +kernel) (by decide +kernel)
set_option maxRecDepth 20000 in
theorem ggL_law_L_claims_t2 : GoodIn wsL_law (wsX60) := goodIn_r _ [566, 567, 568, 569, 570, 571] (by decide +kernel) (by decide +kernel)
set_option maxRecDepth 20000 in
theorem ggL_law_L_claims_t3 : GoodIn wsL_law (wsX80) := goodIn_r _ [579, 580, 581] (by decide +kernel) (by decide +kernel)
set_option maxRecDepth 20000 in
theorem ggL_law_L_claims_t4 : GoodIn wsL_law (wsX00) := goodIn_r _ [582, 583, 584, 585, 586, 587, 588, 589, 590] (by decide +kernel) (by decide +kernel)
set_option maxRecDepth 20000 in
theorem ggL_law_L_claims_t5 : GoodIn wsL_law (wsX70) := goodIn_r _ [591, 592, 593] (by decide +kernel) (by decide +kernel)
set_option maxRecDepth 20000 in
theorem ggL_law_L_claims_t6 : GoodIn wsL_law (wsX10) := goodIn_r _ [596, 597, 598, 599, 600, 601] (by decide +kernel) (by decide +kernel)
set_option maxRecDepth 20000 in
theorem ggL_law_L_claims_t7 : GoodIn wsL_law (wsX50) := goodIn_r _ [572, 573, 574, 575, 576, 577, 578] (by decide +kernel) (by decide +kernel)
set_option maxRecDepth 20000 in
theorem ggL_law_L_claims_t8 : GoodIn wsL_law (wsX40) := goodIn_r _ [594, 595] (by decide +kernel) (by decide +kernel)
theorem ggL_law_L_claims : GoodIn wsL_law wsL_claims := (goodIn_ca (goodIn_ca (goodIn_ca (goodIn_ca (goodIn_ca (goodIn_ca (goodIn_ca (goodIn_ca (goodIn_ca (goodIn_ca ggL_law_L_claims_p0 (goodIn_app ggL_law_L_claims_p1 (goodIn_app ggL_law_L_claims_p2 (goodIn_app ggL_law_L_claims_p3 (goodIn_app ggL_law_L_claims_p4 (goodIn_app ggL_law_L_claims_p5 (goodIn_app ggL_law_L_claims_p6 (goodIn_app ggL_law_L_claims_p7 (goodIn_app ggL_law_L_claims_p8 ggL_law_L_claims_p9))))))))) ggL_law_L_claims_t0) ggL_law_L_claims_t1) ggL_law_L_claims_t2) ggL_law_L_claims_t3) ggL_law_L_claims_t4) ggL_law_L_claims_t5) ggL_law_L_claims_t6) ggL_law_L_claims_t7) ggL_law_L_claims_t8)
set_option maxRecDepth 20000 in
theorem gL_law_L_claims : GoodIn wsL_law (va_wsS RL 102 yL_claims wsL_claims) := goodIn_app (goodIn_of _ (by decide +kernel)) ggL_law_L_claims
