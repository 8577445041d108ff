set_option maxRecDepth 20000 in
theorem ggL_law_X9_count_t7 : GoodIn wsL_law (wsX50) := goodIn_r _ [572, 573, 574, 575, 576, 577, 578] (by decide +kernel) (by decide +kernel)
theorem ggL_law_X9_count : GoodIn wsL_law wsX9_count := (goodIn_ca (goodIn_ca (goodIn_ca (goodIn_ca (goodIn_ca (goodIn_ca (goodIn_ca (goodIn_ca (goodIn_ca ggL_law_X9_count_p0 (goodIn_app ggL_law_X9_count_p1 ggL_law_X9_count_p2)) ggL_law_X9_count_t0) ggL_law_X9_count_t1) ggL_law_X9_count_t2) ggL_law_X9_count_t3) ggL_law_X9_count_t4) ggL_law_X9_count_t5) ggL_law_X9_count_t6) ggL_law_X9_count_t7)
set_option maxRecDepth 20000 in
theorem gL_law_X9_count : GoodIn wsL_law (wsV RL 9 RX9 yX9_count wsX9_count) := goodIn_app (goodIn_of _ (by decide +kernel)) ggL_law_X9_count
set_option maxRecDepth 20000 in
theorem ggL_law_X9_setRule_p0 : GoodIn wsL_law (.code yX9_setRule cX9_setRule 2 (some .int) :: wsX9_setRule_r1) := goodIn_r _ [402, 18, 316, 317, 318, 17, 319, 36, 35, 320, 321, 322, 34, 323, 44, 47, 45, 324, 325, 326, 43, 327, 53, 59, 61] (by decide +kernel) (by decide +kernel)
set_option maxRecDepth 20000 in
theorem ggL_law_X9_setRule_p1 : GoodIn wsL_law (wsX9_setRule_r2) := goodIn_r _ [57, 125, 126, 124, 62, 127, 328, 329, 330, 64, 331, 75, 76, 332, 333, 334, 66, 335, 160, 161, 163, 164, 165, 166] (by decide +kernel) (by decide +kernel)
set_option maxRecDepth 20000 in
theorem ggL_law_X9_setRule_p2 : GoodIn wsL_law (wsX9_setRule_r3) := goodIn_r _ [336, 223, 224, 25, 225, 210, 211, 212, 213, 214, 215, 216, 337, 338, 339, 56, 340, 70, 71, 341, 112, 113, 114, 2] (by decide +kernel) (by decide +kernel)
set_option maxRecDepth 20000 in
theorem ggL_law_X9_setRule_p3 : GoodIn wsL_law (wsX9_setRule_r4) := goodIn_r _ [115, 105, 116, 403, 404, 405, 406, 128, 153, 154, 348, 349, 350, 351, 352, 353, 148, 354, 355, 356, 357, 358, 359, 360] (by decide +kernel) (by decide +kernel)
set_option maxRecDepth 20000 in
theorem ggL_law_X9_setRule_p4 : GoodIn wsL_law (wsX9_setRule_r5) := goodIn_r _ [32, 361, 362, 363, 364] (by decide +kernel) (by decide +kernel)
set_option maxRecDepth 20000 in
theorem ggL_law_X9_setRule_t0 : GoodIn wsL_law (wsX90) := goodIn_r _ [559, 560, 561] (by decide +kernel) (by decide +kernel)
set_option maxRecDepth 20000 in
theorem ggL_law_X9_setRule_t1 : GoodIn wsL_law (wsX30) := goodIn_r _ [562, 563, 564, 565] (by decide +kernel) (by decide +kernel)
set_option maxRecDepth 20000 in
theorem ggL_law_X9_setRule_t2 : GoodIn wsL_law (wsX80) := goodIn_r _ [579, 580, 581] (by decide +kernel) (by decide +kernel)
set_option maxRecDepth 20000 in
theorem ggL_law_X9_setRule_t3 : GoodIn wsL_law (wsX00) := goodIn_r _ [582, 583, 584, 585, 586, 587, 588, 589, 590] (by decide +kernel) (by decide +kernel)
set_option maxRecDepth 20000 in
theorem ggL_law_X9_setRule_t4 : GoodIn wsL_law (wsX40) := goodIn_r _ [594, 595] (by decide +kernel) (by decide +kernel)
set_option maxRecDepth 20000 in
theorem ggL_law_X9_setRule_t5 : GoodIn wsL_law (wsX10) := goodIn_r _ [596, 597, 598, 599, 600, 601] (by decide +kernel) (by decide +kernel)
set_option maxRecDepth 20000 in
theorem ggL_law_X9_setRule_t6 : GoodIn wsL_law (wsX50) := goodIn_r _ [572, 573, 574, 575, 576, 577, 578] (by decide +kernel) (by decide +kernel)
set_option maxRecDepth 20000 in
theorem ggL_law_X9_setRule_t7 : GoodIn wsL_law (wsX70) := goodIn_r _ [591, 592, 593] (by decide +kernel) (by decide +kernel)
theorem ggL_law_X9_setRule : GoodIn wsL_law wsX9_setRule := (goodIn_ca (goodIn_ca (goodIn_ca (goodIn_ca (goodIn_ca (goodIn_ca (goodIn_ca (goodIn_ca (goodIn_ca ggL_law_X9_setRule_p0 (goodIn_app ggL_law_X9_setRule_p1 (goodIn_app ggL_law_X9_setRule_p2 (goodIn_app ggL_law_X9_setRule_p3 ggL_law_X9_setRule_p4)))) ggL_law_X9_setRule_t0) ggL_law_X9_setRule_t1) ggL_law_X9_setRule_t2) ggL_law_X9_setRule_t3) ggL_law_X9_setRule_t4) ggL_law_X9_setRule_t5) ggL_law_X9_setRule_t6) ggL_law_X9_setRule_t7)
set_option maxRecDepth 20000 in
theorem gL_law_X9_setRule : GoodIn wsL_law (wsV RL 92 RX9 yX9_setRule wsX9_setRule) := goodIn_app (goodIn_of _ (by decide +kernel)) ggL_law_X9_setRule
set_option maxRecDepth 20000 in
theorem ggL_law_L_apart_p0 : GoodIn wsL_law (.code yL_apart cL_apart 10 (some .boolean) :: wsL_apart_r1) := goodIn_r _ [409, 410, 411, 412, 2, 413, 148, 414, 112, 113, 114, 115, 18, 105, 116, 415, 257, 258, 43, 259, 53, 153, 154, 416, 417] (by decide +kernel) (by decide +kernel)
set_option maxRecDepth 20000 in
theorem ggL_law_L_apart_p1 : GoodIn wsL_law (wsL_apart_r2) := goodIn_r _ [418, 56, 419, 70, 420, 421, 422, 423, 71, 274, 275, 276, 64, 277, 75, 76, 424, 425, 426, 268, 180, 269, 427, 195] (by decide +kernel) (by decide +kernel)
set_option maxRecDepth 20000 in
theorem ggL_law_L_apart_p2 : GoodIn wsL_law (wsL_apart_r3) := goodIn_r _ [196, 197, 198, 199, 200, 294, 295, 296, 297, 428, 429, 430, 431, 172, 432, 433, 434, 435, 264, 436, 437, 438, 439, 101] (by decide +kernel) (by decide +kernel)
set_option maxRecDepth 20000 in
theorem ggL_law_L_apart_p3 : GoodIn wsL_law (wsL_apart_r4) := goodIn_r _ [102, 103, 104, 106, 22, 107, 108, 109, 110, 34, 111, 47, 117, 118, 119, 120, 57, 121, 122, 123, 124, 62, 125, 126] (by decide +kernel) (by decide +kernel)
set_option maxRecDepth 20000 in
theorem ggL_law_L_apart_p4 : GoodIn wsL_law (wsL_apart_r5) := goodIn_r _ [127, 128, 129, 130, 131, 132, 59, 133, 134, 135, 136, 137, 138, 139, 140, 141, 142, 61, 143, 440, 441, 442, 443, 444] (by decide +kernel) (by decide +kernel)
set_option maxRecDepth 20000 in
theorem ggL_law_L_apart_p5 : GoodIn wsL_law (wsL_apart_r6) := goodIn_r _ [445, 446, 447, 448, 449, 450, 451, 452, 453, 454, 455, 456, 457, 458, 271, 272, 273, 267, 278, 279, 280, 281, 459, 283] (by decide +kernel) (by decide +kernel)
set_option maxRecDepth 20000 in
theorem ggL_law_L_apart_p6 : GoodIn wsL_law (wsL_apart_r7) := goodIn_r _ [284, 285, 286, 287, 288, 289, 290, 291, 292, 293, 390, 391, 392, 393, 316, 317, 318, 17, 319, 36, 35, 320, 321, 322] (by decide +kernel) (by decide +kernel)
set_option maxRecDepth 20000 in
theorem ggL_law_L_apart_p7 : GoodIn wsL_law (wsL_apart_r8) := goodIn_r _ [323, 44, 45, 324, 325, 326, 327, 328, 329, 330, 331, 332, 333, 334, 66, 335, 160, 161, 163, 164, 165, 166, 336, 223] (by decide +kernel) (by decide +kernel)
set_option maxRecDepth 20000 in
theorem ggL_law_L_apart_p8 : GoodIn wsL_law (wsL_apart_r9) := goodIn_r _ [224, 25, 225, 210, 211, 212, 213, 214, 215, 216, 337, 338, 339, 340, 341, 394, 395, 396, 397, 178, 179, 181, 398, 348] (by decide +kernel) (by decide +kernel)
set_option maxRecDepth 20000 in
theorem ggL_law_L_apart_p9 : GoodIn wsL_law (wsL_apart_r10) := goodIn_r _ [349, 350, 351, 352, 353, 354, 355, 356, 357, 358, 359, 360, 32, 361, 362, 363, 364, 460, 461, 462, 463, 464, 465, 466] (by decide +kernel) (by decide +kernel)
set_option maxRecDepth 20000 in
theorem ggL_law_L_apart_p10 : GoodIn wsL_law (wsL_apart_r11) := goodIn_r _ [467, 468] (by decide +kernel) (by decide +kernel)
set_option maxRecDepth 20000 in
theorem ggL_law_L_apart_t0 : GoodIn wsL_law (wsX00) := goodIn_r _ [582, 583, 584, 585, 586, 587, 588, 589, 590] (by decide +kernel) (by decide +kernel)
set_option maxRecDepth 20000 in
theorem ggL_law_L_apart_t1 : GoodIn wsL_law (wsX90) := goodIn_r _ [559, 560, 561] (by decide +kernel) (by decide +kernel)
set_option maxRecDepth 20000 in
theorem ggL_law_L_apart_t2 : GoodIn wsL_law (wsX30) := goodIn_r _ [562, 563, 564, 565] (by decide +kernel) (by decide +kernel)
set_option maxRecDepth 20000 in
theorem ggL_law_L_apart_t3 : GoodIn wsL_law (wsX80) := goodIn_r _ [579, 580, 581] (by decide +kernel) (by decide +kernel)
set_option maxRecDepth 20000 in
theorem ggL_law_L_apart_t4 : GoodIn wsL_law (wsX70) := goodIn_r _ [591, 592, 593] (by decide +kernel) (by decide +kernel)
set_option maxRecDepth 20000 in
theorem ggL_law_L_apart_t5 : GoodIn wsL_law (wsX40) := goodIn_r _ [594, 595] (by decide +kernel) (by decide +kernel)
set_option maxRecDepth 20000 in
theorem ggL_law_L_apart_t6 : GoodIn wsL_law (wsX60) := goodIn_r _ [566, 567, 568, 569, 570, 571] (by decide +kernel) (by decide +kernel)
set_option maxRecDepth 20000 in
theorem ggL_law_L_apart_t7 : GoodIn wsL_law (wsX10) := goodIn_r _ [596, 597, 598, 599, 600, 601] (by decide +kernel) (by decide +kernel)
set_option maxRecDepth 20000 in
theorem ggL_law_L_apart_t8 : GoodIn wsL_law (wsX50) := goodIn_r _ [572, 573, 574, 575, 576, 577, 578] (by decide +kernel) (by decide +kernel)
