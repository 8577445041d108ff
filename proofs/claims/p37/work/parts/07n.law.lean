set_option maxRecDepth 20000 in
theorem ggL_law_L_weighs_p7 : GoodIn wsL_law (wsL_weighs_r8) := goodIn_r _ [266, 179, 181, 267, 270, 271, 272, 273, 274, 275, 276, 277, 278, 279, 280, 281, 282, 283, 284, 285, 286, 287, 288, 289] (by decide +kernel) (by decide +kernel)
set_option maxRecDepth 20000 in
theorem ggL_law_L_weighs_p8 : GoodIn wsL_law (wsL_weighs_r9) := goodIn_r _ [290, 291, 292, 293, 294, 295, 296, 297, 298, 299, 300, 301, 497, 498, 499, 500, 501, 539, 540, 541, 542, 348, 349, 350] (by decide +kernel) (by decide +kernel)
set_option maxRecDepth 20000 in
theorem ggL_law_L_weighs_p9 : GoodIn wsL_law (wsL_weighs_r10) := goodIn_r _ [351, 352, 353, 354, 355, 356, 357, 358, 359, 360, 32, 361, 362, 363, 364, 453, 454, 455, 456, 450, 414, 457, 458, 459] (by decide +kernel) (by decide +kernel)
set_option maxRecDepth 20000 in
theorem ggL_law_L_weighs_p10 : GoodIn wsL_law (wsL_weighs_r11) := goodIn_r _ [543, 544, 545, 546, 547] (by decide +kernel) (by decide +kernel)
set_option maxRecDepth 20000 in
theorem ggL_law_L_weighs_t0 : GoodIn wsL_law (wsX40) := goodIn_r _ [594, 595] (by decide +kernel) (by decide +kernel)
set_option maxRecDepth 20000 in
theorem ggL_law_L_weighs_t1 : GoodIn wsL_law (wsX90) := goodIn_r _ [559, 560, 561] (by decide +kernel) (by decide +kernel)
set_option maxRecDepth 20000 in
theorem ggL_law_L_weighs_t2 : GoodIn wsL_law (wsX30) := goodIn_r _ [562, 563, 564, 565] (by decide +kernel) (by decide +kernel)
set_option maxRecDepth 20000 in
theorem ggL_law_L_weighs_t3 : GoodIn wsL_law (wsX80) := goodIn_r _ [579, 580, 581] (by decide +kernel) (by decide +kernel)
set_option maxRecDepth 20000 in
theorem ggL_law_L_weighs_t4 : GoodIn wsL_law (wsX00) := goodIn_r _ [582, 583, 584, 585, 586, 587, 588, 589, 590] (by decide +kernel) (by decide +kernel)
set_option maxRecDepth 20000 in
theorem ggL_law_L_weighs_t5 : GoodIn wsL_law (wsX10) := goodIn_r _ [596, 597, 598, 599, 600, 601] (by decide +kernel) (by decide +kernel)
set_option maxRecDepth 20000 in
theorem ggL_law_L_weighs_t6 : GoodIn wsL_law (wsX60) := goodIn_r _ [566, 567, 568, 569, 570, 571] (by decide +kernel) (by decide +kernel)
set_option maxRecDepth 20000 in
theorem ggL_law_L_weighs_t7 : GoodIn wsL_law (wsX70) := goodIn_r _ [591, 592, 593] (by decide +kernel) (by decide +kernel)
set_option maxRecDepth 20000 in
theorem ggL_law_L_weighs_t8 : GoodIn wsL_law (wsX50) := goodIn_r _ [572, 573, 574, 575, 576, 577, 578] (by decide +kernel) (by decide +kernel)
theorem ggL_law_L_weighs : GoodIn wsL_law wsL_weighs := (goodIn_ca (goodIn_ca (goodIn_ca (goodIn_ca (goodIn_ca (goodIn_ca (goodIn_ca (goodIn_ca (goodIn_ca (goodIn_ca ggL_law_L_weighs_p0 (goodIn_app ggL_law_L_weighs_p1 (goodIn_app ggL_law_L_weighs_p2 (goodIn_app ggL_law_L_weighs_p3 (goodIn_app ggL_law_L_weighs_p4 (goodIn_app ggL_law_L_weighs_p5 (goodIn_app ggL_law_L_weighs_p6 (goodIn_app ggL_law_L_weighs_p7 (goodIn_app ggL_law_L_weighs_p8 (goodIn_app ggL_law_L_weighs_p9 ggL_law_L_weighs_p10)))))))))) ggL_law_L_weighs_t0) ggL_law_L_weighs_t1) ggL_law_L_weighs_t2) ggL_law_L_weighs_t3) ggL_law_L_weighs_t4) ggL_law_L_weighs_t5) ggL_law_L_weighs_t6) ggL_law_L_weighs_t7) ggL_law_L_weighs_t8)
set_option maxRecDepth 20000 in
theorem gL_law_L_weighs : GoodIn wsL_law (va_wsS RL 113 yL_weighs wsL_weighs) := goodIn_app (goodIn_of _ (by decide +kernel)) ggL_law_L_weighs
set_option maxRecDepth 20000 in
theorem ggL_law_L_reading_p0 : GoodIn wsL_law (.code yL_reading cL_reading 11 (some .boolean) :: wsL_reading_r1) := goodIn_r _ [550, 7, 101, 102, 103, 2, 104, 18, 105, 106, 22, 107, 108, 109, 110, 34, 111, 47, 112, 113, 114, 115, 116, 117, 118] (by decide +kernel) (by decide +kernel)
set_option maxRecDepth 20000 in
theorem ggL_law_L_reading_p1 : GoodIn wsL_law (wsL_reading_r2) := goodIn_r _ [119, 43, 120, 57, 121, 122, 123, 124, 62, 125, 126, 127, 128, 129, 130, 131, 132, 59, 133, 134, 135, 136, 137, 138] (by decide +kernel) (by decide +kernel)
set_option maxRecDepth 20000 in
theorem ggL_law_L_reading_p2 : GoodIn wsL_law (wsL_reading_r3) := goodIn_r _ [139, 140, 141, 142, 61, 143, 446, 447, 448, 449, 450, 148, 414, 451, 172, 153, 154, 452, 424, 425, 426, 268, 180, 269] (by decide +kernel) (by decide +kernel)
set_option maxRecDepth 20000 in
theorem ggL_law_L_reading_p3 : GoodIn wsL_law (wsL_reading_r4) := goodIn_r _ [427, 195, 196, 197, 198, 199, 200, 453, 454, 455, 456, 457, 415, 257, 258, 259, 53, 458, 271, 272, 56, 273, 71, 267] (by decide +kernel) (by decide +kernel)
set_option maxRecDepth 20000 in
theorem ggL_law_L_reading_p4 : GoodIn wsL_law (wsL_reading_r5) := goodIn_r _ [274, 275, 276, 64, 277, 75, 76, 278, 279, 280, 281, 70, 459, 283, 284, 285, 286, 287, 288, 289, 290, 291, 292, 293] (by decide +kernel) (by decide +kernel)
set_option maxRecDepth 20000 in
theorem ggL_law_L_reading_p5 : GoodIn wsL_law (wsL_reading_r6) := goodIn_r _ [294, 295, 296, 297, 543, 544, 545, 546, 547, 261, 262, 263, 264, 265, 266, 179, 181, 270, 282, 298, 299, 300, 301] (by decide +kernel) (by decide +kernel)
set_option maxRecDepth 20000 in
theorem ggL_law_L_reading_t0 : GoodIn wsL_law (wsX90) := goodIn_r _ [559, 560, 561] (by decide +kernel) (by decide +kernel)
set_option maxRecDepth 20000 in
theorem ggL_law_L_reading_t1 : GoodIn wsL_law (wsX30) := goodIn_r _ [562, 563, 564, 565] (by decide +kernel) (by decide +kernel)
set_option maxRecDepth 20000 in
theorem ggL_law_L_reading_t2 : GoodIn wsL_law (wsX60) := goodIn_r _ [566, 567, 568, 569, 570, 571] (by decide +kernel) (by decide +kernel)
set_option maxRecDepth 20000 in
theorem ggL_law_L_reading_t3 : GoodIn wsL_law (wsX80) := goodIn_r _ [579, 580, 581] (by decide +kernel) (by decide +kernel)
set_option maxRecDepth 20000 in
theorem ggL_law_L_reading_t4 : GoodIn wsL_law (wsX00) := goodIn_r _ [582, 583, 584, 585, 586, 587, 588, 589, 590] (by decide +kernel) (by decide +kernel)
set_option maxRecDepth 20000 in
theorem ggL_law_L_reading_t5 : GoodIn wsL_law (wsX70) := goodIn_r _ [591, 592, 593] (by decide +kernel) (by decide +kernel)
set_option maxRecDepth 20000 in
theorem ggL_law_L_reading_t6 : GoodIn wsL_law (wsX10) := goodIn_r _ [596, 597, 598, 599, 600, 601] (by decide +kernel) (by decide +kernel)
set_option maxRecDepth 20000 in
theorem ggL_law_L_reading_t7 : GoodIn wsL_law (wsX50) := goodIn_r _ [572, 573, 574, 575, 576, 577, 578] (by decide +kernel) (by decide +kernel)
set_option maxRecDepth 20000 in
theorem ggL_law_L_reading_t8 : GoodIn wsL_law (wsX40) := goodIn_r _ [594, 595] (by decide +kernel) (by decide +kernel)
theorem ggL_law_L_reading : GoodIn wsL_law wsL_reading := (goodIn_ca (goodIn_ca (goodIn_ca (goodIn_ca (goodIn_ca (goodIn_ca (goodIn_ca (goodIn_ca (goodIn_ca (goodIn_ca ggL_law_L_reading_p0 (goodIn_app ggL_law_L_reading_p1 (goodIn_app ggL_law_L_reading_p2 (goodIn_app ggL_law_L_reading_p3 (goodIn_app ggL_law_L_reading_p4 ggL_law_L_reading_p5))))) ggL_law_L_reading_t0) ggL_law_L_reading_t1) ggL_law_L_reading_t2) ggL_law_L_reading_t3) ggL_law_L_reading_t4) ggL_law_L_reading_t5) ggL_law_L_reading_t6) ggL_law_L_reading_t7) ggL_law_L_reading_t8)
set_option maxRecDepth 20000 in
theorem gL_law_L_reading : GoodIn wsL_law (va_wsS RL 116 yL_reading wsL_reading) := goodIn_app (goodIn_of _ (by decide +kernel)) ggL_law_L_reading
set_option maxRecDepth 20000 in
theorem ggL_law_X9_leave_p0 : GoodIn wsL_law (.code yX9_leave cX9_leave 2 (some .int) :: wsX9_leave_r1) := goodIn_r _ [554, 18, 316, 317, 318, 17, 319, 36, 35, 320, 321, 322, 34, 323, 44, 47, 45, 324, 325, 326, 43, 327, 53, 59, 61] (by decide +kernel) (by decide +kernel)
set_option maxRecDepth 20000 in
theorem ggL_law_X9_leave_p1 : GoodIn wsL_law (wsX9_leave_r2) := goodIn_r _ [57, 125, 126, 124, 62, 127, 328, 329, 330, 64, 331, 75, 76, 332, 333, 334, 66, 335, 160, 161, 163, 164, 165, 166] (by decide +kernel) (by decide +kernel)
set_option maxRecDepth 20000 in
theorem ggL_law_X9_leave_p2 : GoodIn wsL_law (wsX9_leave_r3) := goodIn_r _ [336, 223, 224, 25, 225, 210, 211, 212, 213, 214, 215, 216, 337, 338, 339, 56, 340, 70, 71, 341, 112, 113, 114, 2] (by decide +kernel) (by decide +kernel)
set_option maxRecDepth 20000 in
theorem ggL_law_X9_leave_p3 : GoodIn wsL_law (wsX9_leave_r4) := goodIn_r _ [115, 105, 116, 555, 556, 557, 558, 128, 138, 490, 150, 151, 152, 153, 154, 374, 375, 376, 377, 348, 349, 350, 351, 352] (by decide +kernel) (by decide +kernel)
set_option maxRecDepth 20000 in
theorem ggL_law_X9_leave_p4 : GoodIn wsL_law (wsX9_leave_r5) := goodIn_r _ [353, 148, 354, 355, 356, 357, 358, 359, 360, 32, 361, 362, 363, 364] (by decide +kernel) (by decide +kernel)
set_option maxRecDepth 20000 in
theorem ggL_law_X9_leave_t0 : GoodIn wsL_law (wsX90) := goodIn_r _ [559, 560, 561] (by decide +kernel) (by decide +kernel)
