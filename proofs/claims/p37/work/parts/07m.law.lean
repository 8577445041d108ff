set_option maxRecDepth 20000 in
theorem ggL_law_X9_customer : GoodIn wsL_law wsX9_customer := goodIn_r _ [147, 148, 112, 113, 114, 2, 115, 18, 105, 116, 149, 150, 151, 43, 152, 125, 59, 153, 154, 155, 156, 157, 66, 158, 159, 160, 161, 162, 163, 164, 165, 166, 559, 560, 561, 562, 563, 564, 565, 579, 580, 581, 582, 583, 584, 585, 586, 587, 588, 589, 590, 596, 597, 598, 599, 600, 601] (by decide +kernel) (by decide +kernel)
set_option maxRecDepth 20000 in
theorem gL_law_X9_customer : GoodIn wsL_law (wsV RL 26 RX9 yX9_customer wsX9_customer) := goodIn_app (goodIn_of _ (by decide +kernel)) ggL_law_X9_customer
set_option maxRecDepth 20000 in
theorem ggL_law_X9_buy_p0 : GoodIn wsL_law (.code yX9_buy cX9_buy 4 (some .int) :: wsX9_buy_r1) := goodIn_r _ [510, 18, 316, 317, 318, 17, 319, 36, 35, 320, 321, 322, 34, 323, 44, 47, 45, 324, 325, 326, 43, 327, 53, 59, 61] (by decide +kernel) (by decide +kernel)
set_option maxRecDepth 20000 in
theorem ggL_law_X9_buy_p1 : GoodIn wsL_law (wsX9_buy_r2) := goodIn_r _ [57, 125, 126, 124, 62, 127, 328, 329, 330, 64, 331, 75, 76, 332, 333, 334, 66, 335, 160, 161, 163, 164, 165, 166] (by decide +kernel) (by decide +kernel)
set_option maxRecDepth 20000 in
theorem ggL_law_X9_buy_p2 : GoodIn wsL_law (wsX9_buy_r3) := goodIn_r _ [336, 223, 224, 25, 225, 210, 211, 212, 213, 214, 215, 216, 337, 338, 339, 56, 340, 70, 71, 341, 112, 113, 114, 2] (by decide +kernel) (by decide +kernel)
set_option maxRecDepth 20000 in
theorem ggL_law_X9_buy_p3 : GoodIn wsL_law (wsX9_buy_r4) := goodIn_r _ [115, 105, 116, 511, 512, 513, 514, 128, 138, 177, 489, 143, 373, 490, 150, 151, 152, 153, 154, 191, 192, 193, 194, 515] (by decide +kernel) (by decide +kernel)
set_option maxRecDepth 20000 in
theorem ggL_law_X9_buy_p4 : GoodIn wsL_law (wsX9_buy_r5) := goodIn_r _ [232, 233, 234, 235, 179, 180, 181, 195, 196, 197, 198, 199, 200, 348, 349, 350, 351, 352, 353, 148, 354, 355, 356, 357] (by decide +kernel) (by decide +kernel)
set_option maxRecDepth 20000 in
theorem ggL_law_X9_buy_p5 : GoodIn wsL_law (wsX9_buy_r6) := goodIn_r _ [358, 359, 360, 32, 361, 362, 363, 364] (by decide +kernel) (by decide +kernel)
set_option maxRecDepth 20000 in
theorem ggL_law_X9_buy_t0 : GoodIn wsL_law (wsX90) := goodIn_r _ [559, 560, 561] (by decide +kernel) (by decide +kernel)
set_option maxRecDepth 20000 in
theorem ggL_law_X9_buy_t1 : GoodIn wsL_law (wsX30) := goodIn_r _ [562, 563, 564, 565] (by decide +kernel) (by decide +kernel)
set_option maxRecDepth 20000 in
theorem ggL_law_X9_buy_t2 : GoodIn wsL_law (wsX80) := goodIn_r _ [579, 580, 581] (by decide +kernel) (by decide +kernel)
set_option maxRecDepth 20000 in
theorem ggL_law_X9_buy_t3 : GoodIn wsL_law (wsX00) := goodIn_r _ [582, 583, 584, 585, 586, 587, 588, 589, 590] (by decide +kernel) (by decide +kernel)
set_option maxRecDepth 20000 in
theorem ggL_law_X9_buy_t4 : GoodIn wsL_law (wsX40) := goodIn_r _ [594, 595] (by decide +kernel) (by decide +kernel)
set_option maxRecDepth 20000 in
theorem ggL_law_X9_buy_t5 : GoodIn wsL_law (wsX10) := goodIn_r _ [596, 597, 598, 599, 600, 601] (by decide +kernel) (by decide +kernel)
set_option maxRecDepth 20000 in
theorem ggL_law_X9_buy_t6 : GoodIn wsL_law (wsX50) := goodIn_r _ [572, 573, 574, 575, 576, 577, 578] (by decide +kernel) (by decide +kernel)
set_option maxRecDepth 20000 in
theorem ggL_law_X9_buy_t7 : GoodIn wsL_law (wsX70) := goodIn_r _ [591, 592, 593] (by decide +kernel) (by decide +kernel)
theorem ggL_law_X9_buy : GoodIn wsL_law wsX9_buy := (goodIn_ca (goodIn_ca (goodIn_ca (goodIn_ca (goodIn_ca (goodIn_ca (goodIn_ca (goodIn_ca (goodIn_ca ggL_law_X9_buy_p0 (goodIn_app ggL_law_X9_buy_p1 (goodIn_app ggL_law_X9_buy_p2 (goodIn_app ggL_law_X9_buy_p3 (goodIn_app ggL_law_X9_buy_p4 ggL_law_X9_buy_p5))))) ggL_law_X9_buy_t0) ggL_law_X9_buy_t1) ggL_law_X9_buy_t2) ggL_law_X9_buy_t3) ggL_law_X9_buy_t4) ggL_law_X9_buy_t5) ggL_law_X9_buy_t6) ggL_law_X9_buy_t7)
set_option maxRecDepth 20000 in
theorem gL_law_X9_buy : GoodIn wsL_law (wsV RL 105 RX9 yX9_buy wsX9_buy) := goodIn_app (goodIn_of _ (by decide +kernel)) ggL_law_X9_buy
set_option maxRecDepth 20000 in
theorem ggL_law_X9_prize : GoodIn wsL_law wsX9_prize := goodIn_r _ [204, 148, 112, 113, 114, 2, 115, 18, 105, 116, 205, 192, 193, 43, 194, 126, 61, 153, 154, 206, 207, 208, 25, 209, 210, 211, 212, 213, 214, 215, 216, 217, 559, 560, 561, 562, 563, 564, 565, 579, 580, 581, 582, 583, 584, 585, 586, 587, 588, 589, 590, 572, 573, 574, 575, 576, 577, 578] (by decide +kernel) (by decide +kernel)
set_option maxRecDepth 20000 in
theorem gL_law_X9_prize : GoodIn wsL_law (wsV RL 33 RX9 yX9_prize wsX9_prize) := goodIn_app (goodIn_of _ (by decide +kernel)) ggL_law_X9_prize
set_option maxRecDepth 20000 in
theorem ggL_law_X9_read : GoodIn wsL_law wsX9_read := goodIn_r _ [449, 450, 148, 414, 451, 172, 153, 2, 154, 112, 113, 114, 115, 18, 105, 116, 452, 424, 425, 426, 268, 180, 269, 427, 195, 196, 197, 198, 199, 200, 582, 583, 584, 585, 586, 587, 588, 589, 590, 591, 592, 593, 559, 560, 561, 562, 563, 564, 565, 579, 580, 581] (by decide +kernel) (by decide +kernel)
set_option maxRecDepth 20000 in
theorem gL_law_X9_read : GoodIn wsL_law (wsV RL 15 RX9 yX9_read wsX9_read) := goodIn_app (goodIn_of _ (by decide +kernel)) ggL_law_X9_read
set_option maxRecDepth 20000 in
theorem ggL_law_X9_mixed_p0 : GoodIn wsL_law (.code yX9_mixed cX9_mixed 7 (some .int) :: wsX9_mixed_r1) := goodIn_r _ [519, 148, 450, 414, 112, 113, 114, 2, 115, 18, 105, 116, 415, 257, 258, 43, 259, 53, 153, 154, 172, 520, 521, 522, 56] (by decide +kernel) (by decide +kernel)
set_option maxRecDepth 20000 in
theorem ggL_law_X9_mixed_p1 : GoodIn wsL_law (wsX9_mixed_r2) := goodIn_r _ [523, 264, 524, 525, 526, 527, 71, 286, 287, 288, 289, 70, 294, 295, 296, 64, 297, 75, 76, 274, 275, 276, 277, 290] (by decide +kernel) (by decide +kernel)
set_option maxRecDepth 20000 in
theorem ggL_law_X9_mixed_p2 : GoodIn wsL_law (wsX9_mixed_r3) := goodIn_r _ [291, 292, 293, 278, 279, 280, 281] (by decide +kernel) (by decide +kernel)
set_option maxRecDepth 20000 in
theorem ggL_law_X9_mixed_t0 : GoodIn wsL_law (wsX00) := goodIn_r _ [582, 583, 584, 585, 586, 587, 588, 589, 590] (by decide +kernel) (by decide +kernel)
set_option maxRecDepth 20000 in
theorem ggL_law_X9_mixed_t1 : GoodIn wsL_law (wsX90) := goodIn_r _ [559, 560, 561] (by decide +kernel) (by decide +kernel)
set_option maxRecDepth 20000 in
theorem ggL_law_X9_mixed_t2 : GoodIn wsL_law (wsX30) := goodIn_r _ [562, 563, 564, 565] (by decide +kernel) (by decide +kernel)
set_option maxRecDepth 20000 in
theorem ggL_law_X9_mixed_t3 : GoodIn wsL_law (wsX80) := goodIn_r _ [579, 580, 581] (by decide +kernel) (by decide +kernel)
set_option maxRecDepth 20000 in
theorem ggL_law_X9_mixed_t4 : GoodIn wsL_law (wsX70) := goodIn_r _ [591, 592, 593] (by decide +kernel) (by decide +kernel)
set_option maxRecDepth 20000 in
theorem ggL_law_X9_mixed_t5 : GoodIn wsL_law (wsX40) := goodIn_r _ [594, 595] (by decide +kernel) (by decide +kernel)
theorem ggL_law_X9_mixed : GoodIn wsL_law wsX9_mixed := (goodIn_ca (goodIn_ca (goodIn_ca (goodIn_ca (goodIn_ca (goodIn_ca (goodIn_ca ggL_law_X9_mixed_p0 (goodIn_app ggL_law_X9_mixed_p1 ggL_law_X9_mixed_p2)) ggL_law_X9_mixed_t0) ggL_law_X9_mixed_t1) ggL_law_X9_mixed_t2) ggL_law_X9_mixed_t3) ggL_law_X9_mixed_t4) ggL_law_X9_mixed_t5)
set_option maxRecDepth 20000 in
theorem gL_law_X9_mixed : GoodIn wsL_law (wsV RL 110 RX9 yX9_mixed wsX9_mixed) := goodIn_app (goodIn_of _ (by decide +kernel)) ggL_law_X9_mixed
set_option maxRecDepth 20000 in
theorem ggL_law_L_weighs_p0 : GoodIn wsL_law (.code yL_weighs cL_weighs 10 (some .boolean) :: wsL_weighs_r1) := goodIn_r _ [530, 440, 441, 442, 2, 443, 148, 444, 445, 112, 113, 114, 115, 18, 105, 116, 415, 257, 258, 43, 259, 53, 153, 154, 172] (by decide +kernel) (by decide +kernel)
set_option maxRecDepth 20000 in
theorem ggL_law_L_weighs_p1 : GoodIn wsL_law (wsL_weighs_r2) := goodIn_r _ [144, 145, 146, 147, 149, 150, 151, 152, 125, 59, 155, 156, 157, 66, 158, 159, 160, 161, 162, 163, 164, 165, 166, 101] (by decide +kernel) (by decide +kernel)
set_option maxRecDepth 20000 in
theorem ggL_law_L_weighs_p2 : GoodIn wsL_law (wsL_weighs_r3) := goodIn_r _ [102, 103, 104, 106, 22, 107, 108, 109, 110, 34, 111, 47, 117, 118, 119, 120, 57, 121, 122, 123, 124, 62, 126, 127] (by decide +kernel) (by decide +kernel)
set_option maxRecDepth 20000 in
theorem ggL_law_L_weighs_p3 : GoodIn wsL_law (wsL_weighs_r4) := goodIn_r _ [128, 129, 130, 131, 132, 133, 134, 135, 136, 137, 138, 139, 140, 141, 142, 61, 143, 531, 532, 533, 534, 316, 317, 318] (by decide +kernel) (by decide +kernel)
set_option maxRecDepth 20000 in
theorem ggL_law_L_weighs_p4 : GoodIn wsL_law (wsL_weighs_r5) := goodIn_r _ [17, 319, 36, 35, 320, 321, 322, 323, 44, 45, 324, 325, 326, 327, 328, 329, 330, 64, 331, 75, 76, 332, 333, 334] (by decide +kernel) (by decide +kernel)
set_option maxRecDepth 20000 in
theorem ggL_law_L_weighs_p5 : GoodIn wsL_law (wsL_weighs_r6) := goodIn_r _ [335, 336, 223, 224, 25, 225, 210, 211, 212, 213, 214, 215, 216, 337, 338, 339, 56, 340, 70, 71, 341, 535, 536, 537] (by decide +kernel) (by decide +kernel)
set_option maxRecDepth 20000 in
theorem ggL_law_L_weighs_p6 : GoodIn wsL_law (wsL_weighs_r7) := goodIn_r _ [538, 347, 346, 490, 256, 424, 425, 426, 268, 180, 269, 427, 195, 196, 197, 198, 199, 200, 260, 261, 262, 263, 264, 265] (by decide +kernel) (by decide +kernel)
