set_option maxRecDepth 20000 in
theorem ggL_law_X9_addPrize_p2 : GoodIn wsL_law (wsX9_addPrize_r3) := goodIn_r _ [336, 223, 224, 25, 225, 210, 211, 212, 213, 214, 215, 216, 337, 338, 339, 56, 340, 70, 71, 341, 112, 113, 114, 2] (by decide +kernel) (by decide +kernel)
set_option maxRecDepth 20000 in
theorem ggL_law_X9_addPrize_p3 : GoodIn wsL_law (wsX9_addPrize_r4) := goodIn_r _ [115, 105, 116, 382, 383, 384, 385, 128, 245, 373, 153, 154, 386, 387, 388, 389, 348, 349, 350, 351, 352, 353, 148, 354] (by decide +kernel) (by decide +kernel)
set_option maxRecDepth 20000 in
theorem ggL_law_X9_addPrize_p4 : GoodIn wsL_law (wsX9_addPrize_r5) := goodIn_r _ [355, 356, 357, 358, 359, 360, 32, 361, 362, 363, 364] (by decide +kernel) (by decide +kernel)
set_option maxRecDepth 20000 in
theorem ggL_law_X9_addPrize_t0 : GoodIn wsL_law (wsX90) := goodIn_r _ [559, 560, 561] (by decide +kernel) (by decide +kernel)
set_option maxRecDepth 20000 in
theorem ggL_law_X9_addPrize_t1 : GoodIn wsL_law (wsX30) := goodIn_r _ [562, 563, 564, 565] (by decide +kernel) (by decide +kernel)
set_option maxRecDepth 20000 in
theorem ggL_law_X9_addPrize_t2 : GoodIn wsL_law (wsX80) := goodIn_r _ [579, 580, 581] (by decide +kernel) (by decide +kernel)
set_option maxRecDepth 20000 in
theorem ggL_law_X9_addPrize_t3 : GoodIn wsL_law (wsX00) := goodIn_r _ [582, 583, 584, 585, 586, 587, 588, 589, 590] (by decide +kernel) (by decide +kernel)
set_option maxRecDepth 20000 in
theorem ggL_law_X9_addPrize_t4 : GoodIn wsL_law (wsX40) := goodIn_r _ [594, 595] (by decide +kernel) (by decide +kernel)
set_option maxRecDepth 20000 in
theorem ggL_law_X9_addPrize_t5 : GoodIn wsL_law (wsX10) := goodIn_r _ [596, 597, 598, 599, 600, 601] (by decide +kernel) (by decide +kernel)
set_option maxRecDepth 20000 in
theorem ggL_law_X9_addPrize_t6 : GoodIn wsL_law (wsX50) := goodIn_r _ [572, 573, 574, 575, 576, 577, 578] (by decide +kernel) (by decide +kernel)
set_option maxRecDepth 20000 in
theorem ggL_law_X9_addPrize_t7 : GoodIn wsL_law (wsX70) := goodIn_r _ [591, 592, 593] (by decide +kernel) (by decide +kernel)
theorem ggL_law_X9_addPrize : GoodIn wsL_law wsX9_addPrize := (goodIn_ca (goodIn_ca (goodIn_ca (goodIn_ca (goodIn_ca (goodIn_ca (goodIn_ca (goodIn_ca (goodIn_ca ggL_law_X9_addPrize_p0 (goodIn_app ggL_law_X9_addPrize_p1 (goodIn_app ggL_law_X9_addPrize_p2 (goodIn_app ggL_law_X9_addPrize_p3 ggL_law_X9_addPrize_p4)))) ggL_law_X9_addPrize_t0) ggL_law_X9_addPrize_t1) ggL_law_X9_addPrize_t2) ggL_law_X9_addPrize_t3) ggL_law_X9_addPrize_t4) ggL_law_X9_addPrize_t5) ggL_law_X9_addPrize_t6) ggL_law_X9_addPrize_t7)
set_option maxRecDepth 20000 in
theorem gL_law_X9_addPrize : GoodIn wsL_law (wsV RL 88 RX9 yX9_addPrize wsX9_addPrize) := goodIn_app (goodIn_of _ (by decide +kernel)) ggL_law_X9_addPrize
set_option maxRecDepth 20000 in
theorem ggL_law_X9_setScale_p0 : GoodIn wsL_law (.code yX9_setScale cX9_setScale 3 (some .int) :: wsX9_setScale_r1) := goodIn_r _ [393, 18, 316, 317, 318, 17, 319, 36, 35, 320, 321, 322, 34, 323, 44, 47, 45, 324, 325, 326, 43, 327, 53, 59, 61] (by decide +kernel) (by decide +kernel)
set_option maxRecDepth 20000 in
theorem ggL_law_X9_setScale_p1 : GoodIn wsL_law (wsX9_setScale_r2) := goodIn_r _ [57, 125, 126, 124, 62, 127, 328, 329, 330, 64, 331, 75, 76, 332, 333, 334, 66, 335, 160, 161, 163, 164, 165, 166] (by decide +kernel) (by decide +kernel)
set_option maxRecDepth 20000 in
theorem ggL_law_X9_setScale_p2 : GoodIn wsL_law (wsX9_setScale_r3) := goodIn_r _ [336, 223, 224, 25, 225, 210, 211, 212, 213, 214, 215, 216, 337, 338, 339, 56, 340, 70, 71, 341, 112, 113, 114, 2] (by decide +kernel) (by decide +kernel)
set_option maxRecDepth 20000 in
theorem ggL_law_X9_setScale_p3 : GoodIn wsL_law (wsX9_setScale_r4) := goodIn_r _ [115, 105, 116, 394, 395, 396, 397, 128, 121, 122, 123, 178, 179, 180, 181, 398, 268, 269, 153, 154, 348, 349, 350, 351] (by decide +kernel) (by decide +kernel)
set_option maxRecDepth 20000 in
theorem ggL_law_X9_setScale_p4 : GoodIn wsL_law (wsX9_setScale_r5) := goodIn_r _ [352, 353, 148, 354, 355, 356, 357, 358, 359, 360, 32, 361, 362, 363, 364] (by decide +kernel) (by decide +kernel)
set_option maxRecDepth 20000 in
theorem ggL_law_X9_setScale_t0 : GoodIn wsL_law (wsX90) := goodIn_r _ [559, 560, 561] (by decide +kernel) (by decide +kernel)
set_option maxRecDepth 20000 in
theorem ggL_law_X9_setScale_t1 : GoodIn wsL_law (wsX30) := goodIn_r _ [562, 563, 564, 565] (by decide +kernel) (by decide +kernel)
set_option maxRecDepth 20000 in
theorem ggL_law_X9_setScale_t2 : GoodIn wsL_law (wsX80) := goodIn_r _ [579, 580, 581] (by decide +kernel) (by decide +kernel)
set_option maxRecDepth 20000 in
theorem ggL_law_X9_setScale_t3 : GoodIn wsL_law (wsX00) := goodIn_r _ [582, 583, 584, 585, 586, 587, 588, 589, 590] (by decide +kernel) (by decide +kernel)
set_option maxRecDepth 20000 in
theorem ggL_law_X9_setScale_t4 : GoodIn wsL_law (wsX40) := goodIn_r _ [594, 595] (by decide +kernel) (by decide +kernel)
set_option maxRecDepth 20000 in
theorem ggL_law_X9_setScale_t5 : GoodIn wsL_law (wsX10) := goodIn_r _ [596, 597, 598, 599, 600, 601] (by decide +kernel) (by decide +kernel)
set_option maxRecDepth 20000 in
theorem ggL_law_X9_setScale_t6 : GoodIn wsL_law (wsX50) := goodIn_r _ [572, 573, 574, 575, 576, 577, 578] (by decide +kernel) (by decide +kernel)
set_option maxRecDepth 20000 in
theorem ggL_law_X9_setScale_t7 : GoodIn wsL_law (wsX70) := goodIn_r _ [591, 592, 593] (by decide +kernel) (by decide +kernel)
theorem ggL_law_X9_setScale : GoodIn wsL_law wsX9_setScale := (goodIn_ca (goodIn_ca (goodIn_ca (goodIn_ca (goodIn_ca (goodIn_ca (goodIn_ca (goodIn_ca (goodIn_ca ggL_law_X9_setScale_p0 (goodIn_app ggL_law_X9_setScale_p1 (goodIn_app ggL_law_X9_setScale_p2 (goodIn_app ggL_law_X9_setScale_p3 ggL_law_X9_setScale_p4)))) ggL_law_X9_setScale_t0) ggL_law_X9_setScale_t1) ggL_law_X9_setScale_t2) ggL_law_X9_setScale_t3) ggL_law_X9_setScale_t4) ggL_law_X9_setScale_t5) ggL_law_X9_setScale_t6) ggL_law_X9_setScale_t7)
set_option maxRecDepth 20000 in
theorem gL_law_X9_setScale : GoodIn wsL_law (wsV RL 56 RX9 yX9_setScale wsX9_setScale) := goodIn_app (goodIn_of _ (by decide +kernel)) ggL_law_X9_setScale
set_option maxRecDepth 20000 in
theorem ggL_law_X9_count_p0 : GoodIn wsL_law (.code yX9_count cX9_count 2 (some .int) :: wsX9_count_r1) := goodIn_r _ [104, 18, 105, 106, 22, 107, 108, 109, 110, 34, 111, 47, 112, 113, 114, 2, 115, 116, 117, 118, 119, 43, 120, 57, 121] (by decide +kernel) (by decide +kernel)
set_option maxRecDepth 20000 in
theorem ggL_law_X9_count_p1 : GoodIn wsL_law (wsX9_count_r2) := goodIn_r _ [122, 123, 124, 62, 125, 126, 127, 128, 129, 130, 131, 132, 59, 133, 134, 135, 136, 137, 138, 139, 140, 141, 142, 61] (by decide +kernel) (by decide +kernel)
set_option maxRecDepth 20000 in
theorem ggL_law_X9_count_p2 : GoodIn wsL_law (wsX9_count_r3) := goodIn_r _ [143] (by decide +kernel) (by decide +kernel)
set_option maxRecDepth 20000 in
theorem ggL_law_X9_count_t0 : GoodIn wsL_law (wsX90) := goodIn_r _ [559, 560, 561] (by decide +kernel) (by decide +kernel)
set_option maxRecDepth 20000 in
theorem ggL_law_X9_count_t1 : GoodIn wsL_law (wsX30) := goodIn_r _ [562, 563, 564, 565] (by decide +kernel) (by decide +kernel)
set_option maxRecDepth 20000 in
theorem ggL_law_X9_count_t2 : GoodIn wsL_law (wsX60) := goodIn_r _ [566, 567, 568, 569, 570, 571] (by decide +kernel) (by decide +kernel)
set_option maxRecDepth 20000 in
theorem ggL_law_X9_count_t3 : GoodIn wsL_law (wsX80) := goodIn_r _ [579, 580, 581] (by decide +kernel) (by decide +kernel)
set_option maxRecDepth 20000 in
theorem ggL_law_X9_count_t4 : GoodIn wsL_law (wsX00) := goodIn_r _ [582, 583, 584, 585, 586, 587, 588, 589, 590] (by decide +kernel) (by decide +kernel)
set_option maxRecDepth 20000 in
theorem ggL_law_X9_count_t5 : GoodIn wsL_law (wsX70) := goodIn_r _ [591, 592, 593] (by decide +kernel) (by decide +kernel)
set_option maxRecDepth 20000 in
theorem ggL_law_X9_count_t6 : GoodIn wsL_law (wsX10) := goodIn_r _ [596, 597, 598, 599, 600, 601] (by decide +kernel) (by decide +kernel)
