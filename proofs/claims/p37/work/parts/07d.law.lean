theorem dL_holds_257 : decode cL_holds 257 = .ok (.ifCond .eq 56, 3) := by decide +kernel
theorem dL_holds_260 : decode cL_holds 260 = .ok (.iload 5, 2) := by decide +kernel
theorem dL_holds_262 : decode cL_holds 262 = .ok (.ifCond .lt 51, 3) := by decide +kernel
theorem dL_holds_265 : decode cL_holds 265 = .ok (.aload_n 0, 1) := by decide +kernel
theorem dL_holds_266 : decode cL_holds 266 = .ok (.iload 5, 2) := by decide +kernel
theorem dL_holds_268 : decode cL_holds 268 = .ok (.invokevirtual 43, 3) := by decide +kernel
theorem dL_holds_271 : decode cL_holds 271 = .ok (.ldc 46, 2) := by decide +kernel
theorem dL_holds_273 : decode cL_holds 273 = .ok (.isub, 1) := by decide +kernel
theorem dL_holds_274 : decode cL_holds 274 = .ok (.istore 7, 2) := by decide +kernel
theorem dL_holds_276 : decode cL_holds 276 = .ok (.aload_n 0, 1) := by decide +kernel
theorem dL_holds_277 : decode cL_holds 277 = .ok (.iload 6, 2) := by decide +kernel
theorem dL_holds_279 : decode cL_holds 279 = .ok (.invokevirtual 43, 3) := by decide +kernel
theorem dL_holds_282 : decode cL_holds 282 = .ok (.ldc 46, 2) := by decide +kernel
theorem dL_holds_284 : decode cL_holds 284 = .ok (.isub, 1) := by decide +kernel
theorem dL_holds_285 : decode cL_holds 285 = .ok (.istore 8, 2) := by decide +kernel
theorem dL_holds_287 : decode cL_holds 287 = .ok (.iload 7, 2) := by decide +kernel
theorem dL_holds_289 : decode cL_holds 289 = .ok (.iload 7, 2) := by decide +kernel
theorem dL_holds_291 : decode cL_holds 291 = .ok (.imul, 1) := by decide +kernel
theorem dL_holds_292 : decode cL_holds 292 = .ok (.iload 8, 2) := by decide +kernel
theorem dL_holds_294 : decode cL_holds 294 = .ok (.iload 8, 2) := by decide +kernel
theorem dL_holds_296 : decode cL_holds 296 = .ok (.imul, 1) := by decide +kernel
theorem dL_holds_297 : decode cL_holds 297 = .ok (.if_icmp .gt 7, 3) := by decide +kernel
theorem dL_holds_300 : decode cL_holds 300 = .ok (.iconst 1, 1) := by decide +kernel
theorem dL_holds_301 : decode cL_holds 301 = .ok (.goto 4, 3) := by decide +kernel
theorem dL_holds_304 : decode cL_holds 304 = .ok (.iconst 0, 1) := by decide +kernel
theorem dL_holds_305 : decode cL_holds 305 = .ok (.istore 4, 2) := by decide +kernel
theorem dL_holds_307 : decode cL_holds 307 = .ok (.iinc 6 1, 3) := by decide +kernel
theorem dL_holds_310 : decode cL_holds 310 = .ok (.goto (-61), 3) := by decide +kernel
theorem dL_holds_313 : decode cL_holds 313 = .ok (.iload 4, 2) := by decide +kernel
theorem dL_holds_315 : decode cL_holds 315 = .ok (.ifCond .eq 65, 3) := by decide +kernel
theorem dL_holds_318 : decode cL_holds 318 = .ok (.iload_n 1, 1) := by decide +kernel
theorem dL_holds_319 : decode cL_holds 319 = .ok (.aload_n 0, 1) := by decide +kernel
theorem dL_holds_320 : decode cL_holds 320 = .ok (.bipush 9, 2) := by decide +kernel
theorem dL_holds_322 : decode cL_holds 322 = .ok (.invokevirtual 9, 3) := by decide +kernel
theorem dL_holds_325 : decode cL_holds 325 = .ok (.if_icmp .ne 55, 3) := by decide +kernel
theorem dL_holds_328 : decode cL_holds 328 = .ok (.iload_n 2, 1) := by decide +kernel
theorem dL_holds_329 : decode cL_holds 329 = .ok (.aload_n 0, 1) := by decide +kernel
theorem dL_holds_330 : decode cL_holds 330 = .ok (.bipush 10, 2) := by decide +kernel
theorem dL_holds_332 : decode cL_holds 332 = .ok (.invokevirtual 9, 3) := by decide +kernel
theorem dL_holds_335 : decode cL_holds 335 = .ok (.if_icmp .ne 45, 3) := by decide +kernel
theorem dL_holds_338 : decode cL_holds 338 = .ok (.iload_n 3, 1) := by decide +kernel
theorem dL_holds_339 : decode cL_holds 339 = .ok (.aload_n 0, 1) := by decide +kernel
theorem dL_holds_340 : decode cL_holds 340 = .ok (.bipush 7, 2) := by decide +kernel
theorem dL_holds_342 : decode cL_holds 342 = .ok (.invokevirtual 9, 3) := by decide +kernel
theorem dL_holds_345 : decode cL_holds 345 = .ok (.if_icmp .ne 35, 3) := by decide +kernel
theorem dL_holds_348 : decode cL_holds 348 = .ok (.iload 5, 2) := by decide +kernel
theorem dL_holds_350 : decode cL_holds 350 = .ok (.ifCond .lt 7, 3) := by decide +kernel
theorem dL_holds_353 : decode cL_holds 353 = .ok (.iconst 1, 1) := by decide +kernel
theorem dL_holds_354 : decode cL_holds 354 = .ok (.goto 4, 3) := by decide +kernel
theorem dL_holds_357 : decode cL_holds 357 = .ok (.iconst 0, 1) := by decide +kernel
theorem dL_holds_358 : decode cL_holds 358 = .ok (.aload_n 0, 1) := by decide +kernel
theorem dL_holds_359 : decode cL_holds 359 = .ok (.iconst 1, 1) := by decide +kernel
theorem dL_holds_360 : decode cL_holds 360 = .ok (.invokevirtual 43, 3) := by decide +kernel
theorem dL_holds_363 : decode cL_holds 363 = .ok (.ldc 22, 2) := by decide +kernel
theorem dL_holds_365 : decode cL_holds 365 = .ok (.if_icmp .eq 7, 3) := by decide +kernel
theorem dL_holds_368 : decode cL_holds 368 = .ok (.iconst 1, 1) := by decide +kernel
theorem dL_holds_369 : decode cL_holds 369 = .ok (.goto 4, 3) := by decide +kernel
theorem dL_holds_372 : decode cL_holds 372 = .ok (.iconst 0, 1) := by decide +kernel
theorem dL_holds_373 : decode cL_holds 373 = .ok (.if_icmp .ne 7, 3) := by decide +kernel
theorem dL_holds_376 : decode cL_holds 376 = .ok (.iconst 1, 1) := by decide +kernel
theorem dL_holds_377 : decode cL_holds 377 = .ok (.goto 4, 3) := by decide +kernel
theorem dL_holds_380 : decode cL_holds 380 = .ok (.iconst 0, 1) := by decide +kernel
theorem dL_holds_381 : decode cL_holds 381 = .ok (.ireturn, 1) := by decide +kernel
set_option maxRecDepth 20000 in
theorem ggL_apart_X9_apartUpTo : GoodIn wsL_apart wsX9_apartUpTo := goodIn_r _ [5, 6, 7, 8, 9, 10, 4, 11, 12, 13, 14, 15, 16, 17, 18, 19, 20, 21, 22, 23, 24, 25, 26, 27, 28, 29, 30, 31, 32, 33, 34, 35, 36, 37, 38, 39, 40, 41, 42, 43, 44, 45, 46, 47, 48, 49, 50, 51, 52, 53, 54, 55, 56, 57, 243, 244, 245, 246, 247, 248, 249, 250, 251, 252, 253, 254, 255, 256, 257, 258, 259, 260, 261, 262, 263, 264, 265, 266] (by decide +kernel) (by decide +kernel)
set_option maxRecDepth 20000 in
theorem gL_apart_X9_apartUpTo : GoodIn wsL_apart (wsV RL 47 RX9 yX9_apartUpTo wsX9_apartUpTo) := goodIn_app (goodIn_of _ (by decide +kernel)) ggL_apart_X9_apartUpTo
set_option maxRecDepth 20000 in
theorem ggL_apart_X9_bestStep : GoodIn wsL_apart wsX9_bestStep := goodIn_r _ [61, 6, 7, 8, 9, 10, 4, 11, 12, 13, 14, 15, 16, 17, 18, 19, 20, 21, 22, 62, 63, 64, 65, 26, 66, 67, 68, 69, 70, 71, 29, 30, 31, 32, 33, 34, 35, 36, 37, 38, 39, 40, 41, 42, 43, 44, 45, 46, 47, 48, 49, 50, 51, 52, 53, 54, 55, 56, 57, 243, 244, 245, 246, 247, 248, 249, 250, 251, 252, 253, 254, 255, 256, 257, 258, 259, 260, 261, 262, 263, 264, 265, 266] (by decide +kernel) (by decide +kernel)
set_option maxRecDepth 20000 in
theorem gL_apart_X9_bestStep : GoodIn wsL_apart (wsV RL 50 RX9 yX9_bestStep wsX9_bestStep) := goodIn_app (goodIn_of _ (by decide +kernel)) ggL_apart_X9_bestStep
set_option maxRecDepth 20000 in
theorem ggL_apart_X9_count : GoodIn wsL_apart wsX9_count := goodIn_r _ [75, 12, 13, 76, 77, 78, 79, 80, 81, 82, 83, 84, 8, 9, 10, 4, 11, 14, 85, 86, 87, 18, 88, 89, 90, 91, 92, 93, 94, 95, 96, 97, 98, 99, 100, 101, 102, 103, 104, 105, 106, 107, 108, 109, 110, 111, 112, 113, 114, 115, 252, 253, 254, 255, 256, 257, 258, 267, 268, 269, 270, 271, 272, 259, 260, 261, 243, 244, 245, 246, 247, 248, 249, 250, 251, 262, 263, 264, 273, 274, 275, 276, 277, 278, 279, 280, 281, 282, 283, 284, 285] (by decide +kernel) (by decide +kernel)
set_option maxRecDepth 20000 in
theorem gL_apart_X9_count : GoodIn wsL_apart (wsV RL 9 RX9 yX9_count wsX9_count) := goodIn_app (goodIn_of _ (by decide +kernel)) ggL_apart_X9_count
set_option maxRecDepth 20000 in
theorem ggL_apart_X9_kind : GoodIn wsL_apart wsX9_kind := goodIn_r _ [119, 6, 120, 121, 8, 9, 10, 4, 11, 12, 13, 14, 15, 16, 17, 18, 19, 20, 21, 22, 62, 265, 266, 252, 253, 254, 255, 256, 257, 258, 259, 260, 261, 243, 244, 245, 246, 247, 248, 249, 250, 251] (by decide +kernel) (by decide +kernel)
set_option maxRecDepth 20000 in
theorem gL_apart_X9_kind : GoodIn wsL_apart (wsV RL 53 RX9 yX9_kind wsX9_kind) := goodIn_app (goodIn_of _ (by decide +kernel)) ggL_apart_X9_kind
set_option maxRecDepth 20000 in
theorem ggL_apart_X9_read : GoodIn wsL_apart wsX9_read := goodIn_r _ [125, 126, 6, 7, 127, 62, 21, 4, 22, 8, 9, 10, 11, 12, 13, 14, 128, 41, 42, 43, 44, 45, 46, 47, 48, 49, 50, 51, 52, 53, 243, 244, 245, 246, 247, 248, 249, 250, 251, 262, 263, 264, 252, 253, 254, 255, 256, 257, 258, 259, 260, 261] (by decide +kernel) (by decide +kernel)
set_option maxRecDepth 20000 in
theorem gL_apart_X9_read : GoodIn wsL_apart (wsV RL 15 RX9 yX9_read wsX9_read) := goodIn_app (goodIn_of _ (by decide +kernel)) ggL_apart_X9_read
set_option maxRecDepth 20000 in
theorem ggL_apart_X9_allowed : GoodIn wsL_apart wsX9_allowed := goodIn_r _ [132, 126, 6, 7, 133, 8, 9, 10, 4, 11, 12, 13, 14, 15, 16, 17, 18, 19, 20, 21, 22, 62, 134, 135, 136, 26, 137, 33, 138, 44, 45, 46, 34, 35, 36, 37, 38, 39, 40, 139, 140, 141, 142, 28, 48, 49, 50, 51, 52, 53, 143, 144, 145, 146, 147, 148, 149, 150, 151, 152, 153, 154, 54, 55, 56, 57, 243, 244, 245, 246, 247, 248, 249, 250, 251, 252, 253, 254, 255, 256, 257, 258, 259, 260, 261, 262, 263, 264, 265, 266] (by decide +kernel) (by decide +kernel)
set_option maxRecDepth 20000 in
theorem gL_apart_X9_allowed : GoodIn wsL_apart (wsV RL 18 RX9 yX9_allowed wsX9_allowed) := goodIn_app (goodIn_of _ (by decide +kernel)) ggL_apart_X9_allowed
set_option maxRecDepth 20000 in
theorem ggL_apart_X9_setScale : GoodIn wsL_apart wsX9_setScale := goodIn_r _ [158, 12, 159, 160, 161, 162, 163, 164, 165, 166, 167, 168, 82, 169, 170, 84, 171, 172, 173, 174, 18, 175, 20, 103, 114, 89, 95, 96, 93, 94, 97, 176, 177, 178, 37, 179, 39, 40, 180, 181, 182, 183, 184, 185, 186, 187, 188, 189, 190, 191, 192, 193, 194, 195, 196, 197, 198, 199, 200, 201, 202, 203, 204, 205, 26, 206, 28, 33, 207, 8, 9, 10, 4, 11, 13, 14, 208, 209, 210, 211, 98, 90, 91, 92, 212, 213, 45, 214, 215, 44, 46, 21, 22, 216, 217, 218, 219, 220, 221, 6, 222, 223, 224, 225, 226, 227, 228, 229, 230, 231, 232, 233, 252, 253, 254, 255, 256, 257, 258, 259, 260, 261, 243, 244, 245, 246, 247, 248, 249, 250, 251, 265, 266, 273, 274, 275, 276, 277, 278, 279, 280, 281, 282, 283, 284, 285, 262, 263, 264] (by decide +kernel) (by decide +kernel)
set_option maxRecDepth 20000 in
theorem gL_apart_X9_setScale : GoodIn wsL_apart (wsV RL 56 RX9 yX9_setScale wsX9_setScale) := goodIn_app (goodIn_of _ (by decide +kernel)) ggL_apart_X9_setScale
set_option maxRecDepth 20000 in
theorem ggL_apart_X9_undo : GoodIn wsL_apart wsX9_undo := goodIn_r _ [237, 12, 238, 239, 240, 162, 241, 228, 242, 165, 229, 21, 4, 22, 252, 253, 254, 255, 256, 257, 258] (by decide +kernel) (by decide +kernel)
set_option maxRecDepth 20000 in
theorem gL_apart_X9_undo : GoodIn wsL_apart (wsV RL 59 RX9 yX9_undo wsX9_undo) := goodIn_app (goodIn_of _ (by decide +kernel)) ggL_apart_X9_undo
theorem dL_apart_0 : decode cL_apart 0 = .ok (.aload_n 0, 1) := by decide +kernel
theorem dL_apart_1 : decode cL_apart 1 = .ok (.iload_n 1, 1) := by decide +kernel
theorem dL_apart_2 : decode cL_apart 2 = .ok (.invokevirtual 47, 3) := by decide +kernel
theorem dL_apart_5 : decode cL_apart 5 = .ok (.istore_n 3, 1) := by decide +kernel
theorem dL_apart_6 : decode cL_apart 6 = .ok (.iload_n 2, 1) := by decide +kernel
theorem dL_apart_7 : decode cL_apart 7 = .ok (.bipush 40, 2) := by decide +kernel
theorem dL_apart_9 : decode cL_apart 9 = .ok (.irem, 1) := by decide +kernel
theorem dL_apart_10 : decode cL_apart 10 = .ok (.istore 4, 2) := by decide +kernel
theorem dL_apart_12 : decode cL_apart 12 = .ok (.aload_n 0, 1) := by decide +kernel
theorem dL_apart_13 : decode cL_apart 13 = .ok (.iload_n 1, 1) := by decide +kernel
theorem dL_apart_14 : decode cL_apart 14 = .ok (.iload 4, 2) := by decide +kernel
theorem dL_apart_16 : decode cL_apart 16 = .ok (.invokevirtual 50, 3) := by decide +kernel
theorem dL_apart_19 : decode cL_apart 19 = .ok (.istore 5, 2) := by decide +kernel
theorem dL_apart_21 : decode cL_apart 21 = .ok (.iload_n 3, 1) := by decide +kernel
theorem dL_apart_22 : decode cL_apart 22 = .ok (.ifCond .lt 38, 3) := by decide +kernel
