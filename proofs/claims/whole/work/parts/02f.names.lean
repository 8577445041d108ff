theorem dX9_bestStep_17 : decode cX9_bestStep 17 = .ok (.invokestatic 141, 3) := by decide +kernel
theorem dX9_bestStep_20 : decode cX9_bestStep 20 = .ok (.ifCond .ne 6, 3) := by decide +kernel
theorem dX9_bestStep_23 : decode cX9_bestStep 23 = .ok (.ldc 145, 2) := by decide +kernel
theorem dX9_bestStep_25 : decode cX9_bestStep 25 = .ok (.ireturn, 1) := by decide +kernel
theorem dX9_bestStep_26 : decode cX9_bestStep 26 = .ok (.aload_n 0, 1) := by decide +kernel
theorem dX9_bestStep_27 : decode cX9_bestStep 27 = .ok (.invokevirtual 33, 3) := by decide +kernel
theorem dX9_bestStep_30 : decode cX9_bestStep 30 = .ok (.getfield 167, 3) := by decide +kernel
theorem dX9_bestStep_33 : decode cX9_bestStep 33 = .ok (.aload_n 3, 1) := by decide +kernel
theorem dX9_bestStep_34 : decode cX9_bestStep 34 = .ok (.iload_n 2, 1) := by decide +kernel
theorem dX9_bestStep_35 : decode cX9_bestStep 35 = .ok (.invokevirtual 195, 3) := by decide +kernel
theorem dX9_bestStep_38 : decode cX9_bestStep 38 = .ok (.ireturn, 1) := by decide +kernel
set_option maxRecDepth 20000 in
theorem ggX9_mixed_X9_counter : GoodIn wsX9_mixed wsX9_counter := goodIn_r _ [8, 9, 10, 11, 65, 66, 67, 68, 69, 70, 71, 72, 73, 74] (by decide +kernel) (by decide +kernel)
set_option maxRecDepth 20000 in
theorem gX9_mixed_X9_counter : GoodIn wsX9_mixed (wsV RX9 33 RX9 yX9_counter wsX9_counter) := goodIn_app (goodIn_of _ (by decide +kernel)) ggX9_mixed_X9_counter
set_option maxRecDepth 20000 in
theorem ggX9_mixed_X0_kindAt : GoodIn wsX9_mixed wsX0_kindAt := goodIn_r _ [16, 17, 18, 7, 19, 56, 57, 58, 59, 60, 61, 62, 63, 64] (by decide +kernel) (by decide +kernel)
set_option maxRecDepth 20000 in
theorem gX9_mixed_X0_kindAt : GoodIn wsX9_mixed (wsV RX9 137 RX0 yX0_kindAt wsX0_kindAt) := goodIn_app (goodIn_of _ (by decide +kernel)) ggX9_mixed_X0_kindAt
set_option maxRecDepth 20000 in
theorem ggX9_mixed_X9_within : GoodIn wsX9_mixed wsX9_within := goodIn_r _ [19] (by decide +kernel) (by decide +kernel)
set_option maxRecDepth 20000 in
theorem gX9_mixed_X9_within : GoodIn wsX9_mixed (va_wsS RX9 141 yX9_within wsX9_within) := goodIn_app (goodIn_of _ (by decide +kernel)) ggX9_mixed_X9_within
set_option maxRecDepth 20000 in
theorem ggX9_mixed_X7_mixedPairs : GoodIn wsX9_mixed wsX7_mixedPairs := goodIn_r _ [25, 26, 27, 28, 29, 24, 30, 31, 32, 33, 34, 35, 36, 37, 38, 39, 40, 41, 42, 43, 44, 45, 46, 47, 48, 49, 50, 51, 52, 53, 54, 55, 75, 76, 77, 78, 79] (by decide +kernel) (by decide +kernel)
set_option maxRecDepth 20000 in
theorem gX9_mixed_X7_mixedPairs : GoodIn wsX9_mixed (wsV RX9 199 RX7 yX7_mixedPairs wsX7_mixedPairs) := goodIn_app (goodIn_of _ (by decide +kernel)) ggX9_mixed_X7_mixedPairs
theorem dX9_mixed_0 : decode cX9_mixed 0 = .ok (.aload_n 0, 1) := by decide +kernel
theorem dX9_mixed_1 : decode cX9_mixed 1 = .ok (.invokevirtual 33, 3) := by decide +kernel
theorem dX9_mixed_4 : decode cX9_mixed 4 = .ok (.iload_n 1, 1) := by decide +kernel
theorem dX9_mixed_5 : decode cX9_mixed 5 = .ok (.invokevirtual 137, 3) := by decide +kernel
theorem dX9_mixed_8 : decode cX9_mixed 8 = .ok (.astore 5, 2) := by decide +kernel
theorem dX9_mixed_10 : decode cX9_mixed 10 = .ok (.aload_n 0, 1) := by decide +kernel
theorem dX9_mixed_11 : decode cX9_mixed 11 = .ok (.invokevirtual 33, 3) := by decide +kernel
theorem dX9_mixed_14 : decode cX9_mixed 14 = .ok (.iload_n 2, 1) := by decide +kernel
theorem dX9_mixed_15 : decode cX9_mixed 15 = .ok (.invokevirtual 137, 3) := by decide +kernel
theorem dX9_mixed_18 : decode cX9_mixed 18 = .ok (.astore 6, 2) := by decide +kernel
theorem dX9_mixed_20 : decode cX9_mixed 20 = .ok (.aload 5, 2) := by decide +kernel
theorem dX9_mixed_22 : decode cX9_mixed 22 = .ok (.ifnull 13, 3) := by decide +kernel
theorem dX9_mixed_25 : decode cX9_mixed 25 = .ok (.aload 6, 2) := by decide +kernel
theorem dX9_mixed_27 : decode cX9_mixed 27 = .ok (.ifnull 8, 3) := by decide +kernel
theorem dX9_mixed_30 : decode cX9_mixed 30 = .ok (.iload_n 1, 1) := by decide +kernel
theorem dX9_mixed_31 : decode cX9_mixed 31 = .ok (.iload_n 2, 1) := by decide +kernel
theorem dX9_mixed_32 : decode cX9_mixed 32 = .ok (.if_icmp .ne 6, 3) := by decide +kernel
theorem dX9_mixed_35 : decode cX9_mixed 35 = .ok (.ldc 145, 2) := by decide +kernel
theorem dX9_mixed_37 : decode cX9_mixed 37 = .ok (.ireturn, 1) := by decide +kernel
theorem dX9_mixed_38 : decode cX9_mixed 38 = .ok (.iload_n 3, 1) := by decide +kernel
theorem dX9_mixed_39 : decode cX9_mixed 39 = .ok (.iconst 0, 1) := by decide +kernel
theorem dX9_mixed_40 : decode cX9_mixed 40 = .ok (.ldc 166, 2) := by decide +kernel
theorem dX9_mixed_42 : decode cX9_mixed 42 = .ok (.invokestatic 141, 3) := by decide +kernel
theorem dX9_mixed_45 : decode cX9_mixed 45 = .ok (.ifCond .eq 13, 3) := by decide +kernel
theorem dX9_mixed_48 : decode cX9_mixed 48 = .ok (.iload 4, 2) := by decide +kernel
theorem dX9_mixed_50 : decode cX9_mixed 50 = .ok (.iconst 0, 1) := by decide +kernel
theorem dX9_mixed_51 : decode cX9_mixed 51 = .ok (.iconst 2, 1) := by decide +kernel
theorem dX9_mixed_52 : decode cX9_mixed 52 = .ok (.invokestatic 141, 3) := by decide +kernel
theorem dX9_mixed_55 : decode cX9_mixed 55 = .ok (.ifCond .ne 6, 3) := by decide +kernel
theorem dX9_mixed_58 : decode cX9_mixed 58 = .ok (.ldc 145, 2) := by decide +kernel
theorem dX9_mixed_60 : decode cX9_mixed 60 = .ok (.ireturn, 1) := by decide +kernel
theorem dX9_mixed_61 : decode cX9_mixed 61 = .ok (.aload_n 0, 1) := by decide +kernel
theorem dX9_mixed_62 : decode cX9_mixed 62 = .ok (.invokevirtual 33, 3) := by decide +kernel
theorem dX9_mixed_65 : decode cX9_mixed 65 = .ok (.getfield 167, 3) := by decide +kernel
theorem dX9_mixed_68 : decode cX9_mixed 68 = .ok (.aload 5, 2) := by decide +kernel
theorem dX9_mixed_70 : decode cX9_mixed 70 = .ok (.aload 6, 2) := by decide +kernel
theorem dX9_mixed_72 : decode cX9_mixed 72 = .ok (.iload_n 3, 1) := by decide +kernel
theorem dX9_mixed_73 : decode cX9_mixed 73 = .ok (.iload 4, 2) := by decide +kernel
theorem dX9_mixed_75 : decode cX9_mixed 75 = .ok (.invokevirtual 199, 3) := by decide +kernel
theorem dX9_mixed_78 : decode cX9_mixed 78 = .ok (.ireturn, 1) := by decide +kernel
set_option maxRecDepth 20000 in
theorem ggX9_would_X9_within : GoodIn wsX9_would wsX9_within := goodIn_r _ [5] (by decide +kernel) (by decide +kernel)
set_option maxRecDepth 20000 in
theorem gX9_would_X9_within : GoodIn wsX9_would (va_wsS RX9 141 yX9_within wsX9_within) := goodIn_app (goodIn_of _ (by decide +kernel)) ggX9_would_X9_within
set_option maxRecDepth 20000 in
theorem ggX9_would_X9_counter : GoodIn wsX9_would wsX9_counter := goodIn_r _ [9, 10, 11, 12, 88, 89, 90, 91, 92, 93, 94, 95, 96, 97] (by decide +kernel) (by decide +kernel)
set_option maxRecDepth 20000 in
theorem gX9_would_X9_counter : GoodIn wsX9_would (wsV RX9 33 RX9 yX9_counter wsX9_counter) := goodIn_app (goodIn_of _ (by decide +kernel)) ggX9_would_X9_counter
set_option maxRecDepth 20000 in
theorem ggX9_would_X0_given : GoodIn wsX9_would wsX0_given := goodIn_r _ [17, 18, 19, 20, 21, 22, 23, 24, 25, 26, 27, 28, 16, 29, 30, 3, 4, 5, 31, 32, 33, 34, 35, 36, 37, 38, 39, 40, 41, 42, 43, 44, 45, 46, 47, 48, 49, 50, 51, 52, 53, 54, 55, 56, 57, 58, 59, 60, 61, 62, 63, 64, 65, 66, 67, 68, 69, 70, 71, 72, 73, 74, 75, 76, 77, 78, 79, 80, 81, 82, 83, 84, 85, 86, 87, 98, 99, 100, 101, 102, 103, 104, 105, 106, 107, 108, 109, 110, 111, 112, 113, 114, 115, 116, 117] (by decide +kernel) (by decide +kernel)
set_option maxRecDepth 20000 in
theorem gX9_would_X0_given : GoodIn wsX9_would (wsV RX9 203 RX0 yX0_given wsX0_given) := goodIn_app (goodIn_of _ (by decide +kernel)) ggX9_would_X0_given
theorem dX9_would_0 : decode cX9_would 0 = .ok (.iload_n 1, 1) := by decide +kernel
theorem dX9_would_1 : decode cX9_would 1 = .ok (.iconst 0, 1) := by decide +kernel
theorem dX9_would_2 : decode cX9_would 2 = .ok (.iconst 3, 1) := by decide +kernel
theorem dX9_would_3 : decode cX9_would 3 = .ok (.invokestatic 141, 3) := by decide +kernel
theorem dX9_would_6 : decode cX9_would 6 = .ok (.ifCond .ne 6, 3) := by decide +kernel
theorem dX9_would_9 : decode cX9_would 9 = .ok (.ldc 145, 2) := by decide +kernel
theorem dX9_would_11 : decode cX9_would 11 = .ok (.ireturn, 1) := by decide +kernel
theorem dX9_would_12 : decode cX9_would 12 = .ok (.aload_n 0, 1) := by decide +kernel
theorem dX9_would_13 : decode cX9_would 13 = .ok (.invokevirtual 33, 3) := by decide +kernel
theorem dX9_would_16 : decode cX9_would 16 = .ok (.iload_n 1, 1) := by decide +kernel
theorem dX9_would_17 : decode cX9_would 17 = .ok (.invokevirtual 203, 3) := by decide +kernel
theorem dX9_would_20 : decode cX9_would 20 = .ok (.ireturn, 1) := by decide +kernel
set_option maxRecDepth 20000 in
theorem ggX9_fairest_X9_counter : GoodIn wsX9_fairest wsX9_counter := goodIn_r _ [5, 6, 7, 8, 93, 94, 95, 96, 97, 98, 99, 100, 101, 102] (by decide +kernel) (by decide +kernel)
set_option maxRecDepth 20000 in
theorem gX9_fairest_X9_counter : GoodIn wsX9_fairest (wsV RX9 33 RX9 yX9_counter wsX9_counter) := goodIn_app (goodIn_of _ (by decide +kernel)) ggX9_fairest_X9_counter
set_option maxRecDepth 20000 in
theorem ggX9_fairest_X0_fairestRule : GoodIn wsX9_fairest wsX0_fairestRule := goodIn_r _ [13, 14, 15, 16, 17, 18, 19, 20, 21, 22, 12, 23, 24, 25, 26, 27, 28, 29, 30, 31, 32, 33, 34, 35, 4, 36, 37, 38, 39, 40, 41, 42, 43, 44, 45, 46, 47, 48, 49, 50, 51, 52, 53, 54, 55, 56, 57, 58, 59, 60, 61, 62, 63, 64, 65, 66, 67, 68, 69, 70, 71, 72, 73, 74, 75, 76, 77, 78, 79, 80, 81, 82, 83, 84, 85, 86, 87, 88, 89, 90, 91, 92, 103, 104, 105, 106, 107, 108, 109, 110, 111, 112, 113, 114, 115, 116, 117, 118, 119, 120, 121, 122] (by decide +kernel) (by decide +kernel)
set_option maxRecDepth 20000 in
theorem gX9_fairest_X0_fairestRule : GoodIn wsX9_fairest (wsV RX9 206 RX0 yX0_fairestRule wsX0_fairestRule) := goodIn_app (goodIn_of _ (by decide +kernel)) ggX9_fairest_X0_fairestRule
theorem dX9_fairest_0 : decode cX9_fairest 0 = .ok (.aload_n 0, 1) := by decide +kernel
theorem dX9_fairest_1 : decode cX9_fairest 1 = .ok (.invokevirtual 33, 3) := by decide +kernel
theorem dX9_fairest_4 : decode cX9_fairest 4 = .ok (.invokevirtual 206, 3) := by decide +kernel
theorem dX9_fairest_7 : decode cX9_fairest 7 = .ok (.ireturn, 1) := by decide +kernel
set_option maxRecDepth 20000 in
theorem ggX9_soldOut_X9_counter : GoodIn wsX9_soldOut wsX9_counter := goodIn_r _ [7, 8, 9, 10, 51, 52, 53, 54, 55, 56, 57, 58, 59, 60] (by decide +kernel) (by decide +kernel)
set_option maxRecDepth 20000 in
theorem gX9_soldOut_X9_counter : GoodIn wsX9_soldOut (wsV RX9 33 RX9 yX9_counter wsX9_counter) := goodIn_app (goodIn_of _ (by decide +kernel)) ggX9_soldOut_X9_counter
set_option maxRecDepth 20000 in
theorem ggX9_soldOut_X0_prizeAt : GoodIn wsX9_soldOut wsX0_prizeAt := goodIn_r _ [15, 16, 17, 18, 6, 19, 61, 62, 63, 64, 65, 66, 67, 68, 69] (by decide +kernel) (by decide +kernel)
set_option maxRecDepth 20000 in
theorem gX9_soldOut_X0_prizeAt : GoodIn wsX9_soldOut (wsV RX9 161 RX0 yX0_prizeAt wsX0_prizeAt) := goodIn_app (goodIn_of _ (by decide +kernel)) ggX9_soldOut_X0_prizeAt
set_option maxRecDepth 20000 in
theorem ggX9_soldOut_X5_copyFrom : GoodIn wsX9_soldOut wsX5_copyFrom := goodIn_r _ [24, 25, 26, 27, 28, 29, 30, 31, 70, 71, 72, 73, 74, 75, 76] (by decide +kernel) (by decide +kernel)
set_option maxRecDepth 20000 in
theorem gX9_soldOut_X5_copyFrom : GoodIn wsX9_soldOut (wsV RX9 209 RX5 yX5_copyFrom wsX5_copyFrom) := goodIn_app (goodIn_of _ (by decide +kernel)) ggX9_soldOut_X5_copyFrom
set_option maxRecDepth 20000 in
theorem ggX9_soldOut_X5_sellOut : GoodIn wsX9_soldOut wsX5_sellOut := goodIn_r _ [35, 27, 36, 37, 38, 39, 23, 40, 30, 26, 28, 31, 29, 41, 42, 43, 44, 45, 6, 46, 47, 48, 49, 50, 70, 71, 72, 73, 74, 75, 76] (by decide +kernel) (by decide +kernel)
set_option maxRecDepth 20000 in
theorem gX9_soldOut_X5_sellOut : GoodIn wsX9_soldOut (wsV RX9 213 RX5 yX5_sellOut wsX5_sellOut) := goodIn_app (goodIn_of _ (by decide +kernel)) ggX9_soldOut_X5_sellOut
theorem dX9_soldOut_0 : decode cX9_soldOut 0 = .ok (.aload_n 0, 1) := by decide +kernel
theorem dX9_soldOut_1 : decode cX9_soldOut 1 = .ok (.invokevirtual 33, 3) := by decide +kernel
theorem dX9_soldOut_4 : decode cX9_soldOut 4 = .ok (.iload_n 1, 1) := by decide +kernel
theorem dX9_soldOut_5 : decode cX9_soldOut 5 = .ok (.invokevirtual 161, 3) := by decide +kernel
theorem dX9_soldOut_8 : decode cX9_soldOut 8 = .ok (.astore_n 2, 1) := by decide +kernel
theorem dX9_soldOut_9 : decode cX9_soldOut 9 = .ok (.aload_n 2, 1) := by decide +kernel
theorem dX9_soldOut_10 : decode cX9_soldOut 10 = .ok (.ifnonnull 6, 3) := by decide +kernel
theorem dX9_soldOut_13 : decode cX9_soldOut 13 = .ok (.ldc 145, 2) := by decide +kernel
theorem dX9_soldOut_15 : decode cX9_soldOut 15 = .ok (.ireturn, 1) := by decide +kernel
theorem dX9_soldOut_16 : decode cX9_soldOut 16 = .ok (.aload_n 0, 1) := by decide +kernel
theorem dX9_soldOut_17 : decode cX9_soldOut 17 = .ok (.getfield 26, 3) := by decide +kernel
theorem dX9_soldOut_20 : decode cX9_soldOut 20 = .ok (.aload_n 2, 1) := by decide +kernel
theorem dX9_soldOut_21 : decode cX9_soldOut 21 = .ok (.invokevirtual 209, 3) := by decide +kernel
theorem dX9_soldOut_24 : decode cX9_soldOut 24 = .ok (.aload_n 0, 1) := by decide +kernel
theorem dX9_soldOut_25 : decode cX9_soldOut 25 = .ok (.getfield 26, 3) := by decide +kernel
theorem dX9_soldOut_28 : decode cX9_soldOut 28 = .ok (.invokevirtual 213, 3) := by decide +kernel
theorem dX9_soldOut_31 : decode cX9_soldOut 31 = .ok (.ireturn, 1) := by decide +kernel
set_option maxRecDepth 20000 in
theorem ggX9_shop_X9_counter : GoodIn wsX9_shop wsX9_counter := goodIn_r _ [7, 8, 9, 10, 58, 59, 60, 61, 62, 63, 64, 65, 66, 67] (by decide +kernel) (by decide +kernel)
set_option maxRecDepth 20000 in
theorem gX9_shop_X9_counter : GoodIn wsX9_shop (wsV RX9 33 RX9 yX9_counter wsX9_counter) := goodIn_app (goodIn_of _ (by decide +kernel)) ggX9_shop_X9_counter
set_option maxRecDepth 20000 in
theorem ggX9_shop_X0_customerAt : GoodIn wsX9_shop wsX0_customerAt := goodIn_r _ [15, 16, 17, 18, 6, 19, 68, 69, 70, 71, 72, 73, 74, 75, 76] (by decide +kernel) (by decide +kernel)
set_option maxRecDepth 20000 in
theorem gX9_shop_X0_customerAt : GoodIn wsX9_shop (wsV RX9 154 RX0 yX0_customerAt wsX0_customerAt) := goodIn_app (goodIn_of _ (by decide +kernel)) ggX9_shop_X0_customerAt
set_option maxRecDepth 20000 in
theorem ggX9_shop_X9_within : GoodIn wsX9_shop wsX9_within := goodIn_r _ [19] (by decide +kernel) (by decide +kernel)
set_option maxRecDepth 20000 in
theorem gX9_shop_X9_within : GoodIn wsX9_shop (va_wsS RX9 141 yX9_within wsX9_within) := goodIn_app (goodIn_of _ (by decide +kernel)) ggX9_shop_X9_within
set_option maxRecDepth 20000 in
theorem ggX9_shop_X0_shopWith : GoodIn wsX9_shop wsX0_shopWith := goodIn_r _ [24, 25, 26, 27, 28, 29, 30, 31, 32, 33, 34, 14, 35, 36, 37, 38, 39, 40, 41, 42, 43, 44, 45, 18, 6, 19, 46, 47, 48, 49, 50, 51, 77, 78, 79, 80, 81, 82, 83, 68, 69, 70, 71, 72, 73, 74, 75, 76] (by decide +kernel) (by decide +kernel)
set_option maxRecDepth 20000 in
theorem gX9_shop_X0_shopWith : GoodIn wsX9_shop (wsV RX9 219 RX0 yX0_shopWith wsX0_shopWith) := goodIn_app (goodIn_of _ (by decide +kernel)) ggX9_shop_X0_shopWith
theorem dX9_shop_0 : decode cX9_shop 0 = .ok (.aload_n 0, 1) := by decide +kernel
theorem dX9_shop_1 : decode cX9_shop 1 = .ok (.invokevirtual 33, 3) := by decide +kernel
theorem dX9_shop_4 : decode cX9_shop 4 = .ok (.iload_n 1, 1) := by decide +kernel
theorem dX9_shop_5 : decode cX9_shop 5 = .ok (.invokevirtual 154, 3) := by decide +kernel
theorem dX9_shop_8 : decode cX9_shop 8 = .ok (.astore_n 3, 1) := by decide +kernel
theorem dX9_shop_9 : decode cX9_shop 9 = .ok (.aload_n 3, 1) := by decide +kernel
theorem dX9_shop_10 : decode cX9_shop 10 = .ok (.ifnull 12, 3) := by decide +kernel
theorem dX9_shop_13 : decode cX9_shop 13 = .ok (.iload_n 2, 1) := by decide +kernel
theorem dX9_shop_14 : decode cX9_shop 14 = .ok (.iconst 0, 1) := by decide +kernel
theorem dX9_shop_15 : decode cX9_shop 15 = .ok (.iconst 2, 1) := by decide +kernel
theorem dX9_shop_16 : decode cX9_shop 16 = .ok (.invokestatic 141, 3) := by decide +kernel
theorem dX9_shop_19 : decode cX9_shop 19 = .ok (.ifCond .ne 6, 3) := by decide +kernel
theorem dX9_shop_22 : decode cX9_shop 22 = .ok (.ldc 145, 2) := by decide +kernel
theorem dX9_shop_24 : decode cX9_shop 24 = .ok (.ireturn, 1) := by decide +kernel
theorem dX9_shop_25 : decode cX9_shop 25 = .ok (.aload_n 0, 1) := by decide +kernel
theorem dX9_shop_26 : decode cX9_shop 26 = .ok (.invokevirtual 33, 3) := by decide +kernel
theorem dX9_shop_29 : decode cX9_shop 29 = .ok (.aload_n 3, 1) := by decide +kernel
theorem dX9_shop_30 : decode cX9_shop 30 = .ok (.getfield 216, 3) := by decide +kernel
theorem dX9_shop_33 : decode cX9_shop 33 = .ok (.iload_n 2, 1) := by decide +kernel
theorem dX9_shop_34 : decode cX9_shop 34 = .ok (.invokevirtual 219, 3) := by decide +kernel
theorem dX9_shop_37 : decode cX9_shop 37 = .ok (.ireturn, 1) := by decide +kernel
theorem dX9_counter_0 : decode cX9_counter 0 = .ok (.aload_n 0, 1) := by decide +kernel
theorem dX9_counter_1 : decode cX9_counter 1 = .ok (.getfield 10, 3) := by decide +kernel
theorem dX9_counter_4 : decode cX9_counter 4 = .ok (.getfield 86, 3) := by decide +kernel
theorem dX9_counter_7 : decode cX9_counter 7 = .ok (.getfield 222, 3) := by decide +kernel
theorem dX9_counter_10 : decode cX9_counter 10 = .ok (.areturn, 1) := by decide +kernel
theorem dX9_within_0 : decode cX9_within 0 = .ok (.iload_n 0, 1) := by decide +kernel
theorem dX9_within_1 : decode cX9_within 1 = .ok (.iload_n 1, 1) := by decide +kernel
theorem dX9_within_2 : decode cX9_within 2 = .ok (.if_icmp .lt 12, 3) := by decide +kernel
theorem dX9_within_5 : decode cX9_within 5 = .ok (.iload_n 0, 1) := by decide +kernel
theorem dX9_within_6 : decode cX9_within 6 = .ok (.iload_n 2, 1) := by decide +kernel
theorem dX9_within_7 : decode cX9_within 7 = .ok (.if_icmp .gt 7, 3) := by decide +kernel
theorem dX9_within_10 : decode cX9_within 10 = .ok (.iconst 1, 1) := by decide +kernel
theorem dX9_within_11 : decode cX9_within 11 = .ok (.goto 4, 3) := by decide +kernel
theorem dX9_within_14 : decode cX9_within 14 = .ok (.iconst 0, 1) := by decide +kernel
theorem dX9_within_15 : decode cX9_within 15 = .ok (.ireturn, 1) := by decide +kernel
theorem dX9_isError_0 : decode cX9_isError 0 = .ok (.iload_n 0, 1) := by decide +kernel
theorem dX9_isError_1 : decode cX9_isError 1 = .ok (.ldc 145, 2) := by decide +kernel
theorem dX9_isError_3 : decode cX9_isError 3 = .ok (.if_icmp .eq 15, 3) := by decide +kernel
theorem dX9_isError_6 : decode cX9_isError 6 = .ok (.iload_n 0, 1) := by decide +kernel
theorem dX9_isError_7 : decode cX9_isError 7 = .ok (.ldc 225, 2) := by decide +kernel
theorem dX9_isError_9 : decode cX9_isError 9 = .ok (.if_icmp .eq 9, 3) := by decide +kernel
theorem dX9_isError_12 : decode cX9_isError 12 = .ok (.iload_n 0, 1) := by decide +kernel
theorem dX9_isError_13 : decode cX9_isError 13 = .ok (.ldc 226, 2) := by decide +kernel
theorem dX9_isError_15 : decode cX9_isError 15 = .ok (.if_icmp .ne 7, 3) := by decide +kernel
theorem dX9_isError_18 : decode cX9_isError 18 = .ok (.iconst 1, 1) := by decide +kernel
theorem dX9_isError_19 : decode cX9_isError 19 = .ok (.goto 4, 3) := by decide +kernel
theorem dX9_isError_22 : decode cX9_isError 22 = .ok (.iconst 0, 1) := by decide +kernel
theorem dX9_isError_23 : decode cX9_isError 23 = .ok (.ireturn, 1) := by decide +kernel
set_option maxRecDepth 20000 in
theorem ggX9_quotient_J9_floorDiv_7cf53 : GoodIn wsX9_quotient wsJ9_floorDiv_7cf53 := goodIn_r _ [4] (by decide +kernel) (by decide +kernel)
set_option maxRecDepth 20000 in
theorem gX9_quotient_J9_floorDiv_7cf53 : GoodIn wsX9_quotient (va_wsS RX9 227 yJ9_floorDiv_7cf53 wsJ9_floorDiv_7cf53) := goodIn_app (goodIn_of _ (by decide +kernel)) ggX9_quotient_J9_floorDiv_7cf53
theorem dX9_quotient_0 : decode cX9_quotient 0 = .ok (.iload_n 1, 1) := by decide +kernel
theorem dX9_quotient_1 : decode cX9_quotient 1 = .ok (.iconst 1, 1) := by decide +kernel
theorem dX9_quotient_2 : decode cX9_quotient 2 = .ok (.if_icmp .ge 5, 3) := by decide +kernel
theorem dX9_quotient_5 : decode cX9_quotient 5 = .ok (.iconst 0, 1) := by decide +kernel
theorem dX9_quotient_6 : decode cX9_quotient 6 = .ok (.ireturn, 1) := by decide +kernel
theorem dX9_quotient_7 : decode cX9_quotient 7 = .ok (.iload_n 0, 1) := by decide +kernel
theorem dX9_quotient_8 : decode cX9_quotient 8 = .ok (.iload_n 1, 1) := by decide +kernel
theorem dX9_quotient_9 : decode cX9_quotient 9 = .ok (.invokestatic 227, 3) := by decide +kernel
theorem dX9_quotient_12 : decode cX9_quotient 12 = .ok (.ireturn, 1) := by decide +kernel
set_option maxRecDepth 20000 in
theorem ggX9_readingAt_X9_quotient : GoodIn wsX9_readingAt wsX9_quotient := goodIn_r _ [8, 9, 10, 11, 12] (by decide +kernel) (by decide +kernel)
set_option maxRecDepth 20000 in
theorem gX9_readingAt_X9_quotient : GoodIn wsX9_readingAt (va_wsS RX9 232 yX9_quotient wsX9_quotient) := goodIn_app (goodIn_of _ (by decide +kernel)) ggX9_readingAt_X9_quotient
theorem dX9_readingAt_0 : decode cX9_readingAt 0 = .ok (.iconst 0, 1) := by decide +kernel
theorem dX9_readingAt_1 : decode cX9_readingAt 1 = .ok (.iload_n 0, 1) := by decide +kernel
theorem dX9_readingAt_2 : decode cX9_readingAt 2 = .ok (.iconst 2, 1) := by decide +kernel
theorem dX9_readingAt_3 : decode cX9_readingAt 3 = .ok (.iload_n 1, 1) := by decide +kernel
theorem dX9_readingAt_4 : decode cX9_readingAt 4 = .ok (.imul, 1) := by decide +kernel
theorem dX9_readingAt_5 : decode cX9_readingAt 5 = .ok (.iload_n 0, 1) := by decide +kernel
theorem dX9_readingAt_6 : decode cX9_readingAt 6 = .ok (.iadd, 1) := by decide +kernel
theorem dX9_readingAt_7 : decode cX9_readingAt 7 = .ok (.iconst 2, 1) := by decide +kernel
theorem dX9_readingAt_8 : decode cX9_readingAt 8 = .ok (.iload_n 0, 1) := by decide +kernel
theorem dX9_readingAt_9 : decode cX9_readingAt 9 = .ok (.imul, 1) := by decide +kernel
theorem dX9_readingAt_10 : decode cX9_readingAt 10 = .ok (.invokestatic 232, 3) := by decide +kernel
theorem dX9_readingAt_13 : decode cX9_readingAt 13 = .ok (.imul, 1) := by decide +kernel
theorem dX9_readingAt_14 : decode cX9_readingAt 14 = .ok (.invokestatic 235, 3) := by decide +kernel
theorem dX9_readingAt_17 : decode cX9_readingAt 17 = .ok (.ireturn, 1) := by decide +kernel
theorem dX10_init_0 : decode cX10_init 0 = .ok (.aload_n 0, 1) := by decide +kernel
theorem dX10_init_1 : decode cX10_init 1 = .ok (.invokespecial 1, 3) := by decide +kernel
theorem dX10_init_4 : decode cX10_init 4 = .ok (.aload_n 0, 1) := by decide +kernel
theorem dX10_init_5 : decode cX10_init 5 = .ok (.sipush 284, 3) := by decide +kernel
theorem dX10_init_8 : decode cX10_init 8 = .ok (.newarray .int, 2) := by decide +kernel
theorem dX10_init_10 : decode cX10_init 10 = .ok (.putfield 7, 3) := by decide +kernel
theorem dX10_init_13 : decode cX10_init 13 = .ok (.aload_n 0, 1) := by decide +kernel
theorem dX10_init_14 : decode cX10_init 14 = .ok (.sipush 284, 3) := by decide +kernel
theorem dX10_init_17 : decode cX10_init 17 = .ok (.newarray .int, 2) := by decide +kernel
theorem dX10_init_19 : decode cX10_init 19 = .ok (.putfield 13, 3) := by decide +kernel
theorem dX10_init_22 : decode cX10_init 22 = .ok (.aload_n 0, 1) := by decide +kernel
theorem dX10_init_23 : decode cX10_init 23 = .ok (.sipush 284, 3) := by decide +kernel
theorem dX10_init_26 : decode cX10_init 26 = .ok (.newarray .int, 2) := by decide +kernel
theorem dX10_init_28 : decode cX10_init 28 = .ok (.putfield 16, 3) := by decide +kernel
theorem dX10_init_31 : decode cX10_init 31 = .ok (.aload_n 0, 1) := by decide +kernel
theorem dX10_init_32 : decode cX10_init 32 = .ok (.sipush 1420, 3) := by decide +kernel
theorem dX10_init_35 : decode cX10_init 35 = .ok (.newarray .int, 2) := by decide +kernel
theorem dX10_init_37 : decode cX10_init 37 = .ok (.putfield 19, 3) := by decide +kernel
theorem dX10_init_40 : decode cX10_init 40 = .ok (.aload_n 0, 1) := by decide +kernel
theorem dX10_init_41 : decode cX10_init 41 = .ok (.sipush 140, 3) := by decide +kernel
theorem dX10_init_44 : decode cX10_init 44 = .ok (.newarray .char, 2) := by decide +kernel
theorem dX10_init_46 : decode cX10_init 46 = .ok (.putfield 22, 3) := by decide +kernel
theorem dX10_init_49 : decode cX10_init 49 = .ok (.aload_n 0, 1) := by decide +kernel
theorem dX10_init_50 : decode cX10_init 50 = .ok (.iconst 5, 1) := by decide +kernel
theorem dX10_init_51 : decode cX10_init 51 = .ok (.newarray .int, 2) := by decide +kernel
theorem dX10_init_53 : decode cX10_init 53 = .ok (.putfield 26, 3) := by decide +kernel
theorem dX10_init_56 : decode cX10_init 56 = .ok (.aload_n 0, 1) := by decide +kernel
theorem dX10_init_57 : decode cX10_init 57 = .ok (.iconst 5, 1) := by decide +kernel
theorem dX10_init_58 : decode cX10_init 58 = .ok (.newarray .int, 2) := by decide +kernel
theorem dX10_init_60 : decode cX10_init 60 = .ok (.putfield 29, 3) := by decide +kernel
theorem dX10_init_63 : decode cX10_init 63 = .ok (.iconst 0, 1) := by decide +kernel
theorem dX10_init_64 : decode cX10_init 64 = .ok (.istore_n 1, 1) := by decide +kernel
theorem dX10_init_65 : decode cX10_init 65 = .ok (.iload_n 1, 1) := by decide +kernel
theorem dX10_init_66 : decode cX10_init 66 = .ok (.iconst 4, 1) := by decide +kernel
theorem dX10_init_67 : decode cX10_init 67 = .ok (.if_icmp .ge 28, 3) := by decide +kernel
theorem dX10_init_70 : decode cX10_init 70 = .ok (.aload_n 0, 1) := by decide +kernel
theorem dX10_init_71 : decode cX10_init 71 = .ok (.getfield 7, 3) := by decide +kernel
theorem dX10_init_74 : decode cX10_init 74 = .ok (.iload_n 1, 1) := by decide +kernel
theorem dX10_init_75 : decode cX10_init 75 = .ok (.sipush 1000, 3) := by decide +kernel
theorem dX10_init_78 : decode cX10_init 78 = .ok (.iastore, 1) := by decide +kernel
theorem dX10_init_79 : decode cX10_init 79 = .ok (.aload_n 0, 1) := by decide +kernel
theorem dX10_init_80 : decode cX10_init 80 = .ok (.getfield 7, 3) := by decide +kernel
theorem dX10_init_83 : decode cX10_init 83 = .ok (.iconst 4, 1) := by decide +kernel
theorem dX10_init_84 : decode cX10_init 84 = .ok (.iload_n 1, 1) := by decide +kernel
theorem dX10_init_85 : decode cX10_init 85 = .ok (.iadd, 1) := by decide +kernel
theorem dX10_init_86 : decode cX10_init 86 = .ok (.bipush 10, 2) := by decide +kernel
theorem dX10_init_88 : decode cX10_init 88 = .ok (.iastore, 1) := by decide +kernel
theorem dX10_init_89 : decode cX10_init 89 = .ok (.iinc 1 1, 3) := by decide +kernel
theorem dX10_init_92 : decode cX10_init 92 = .ok (.goto (-27), 3) := by decide +kernel
theorem dX10_init_95 : decode cX10_init 95 = .ok (.aload_n 0, 1) := by decide +kernel
theorem dX10_init_96 : decode cX10_init 96 = .ok (.getfield 7, 3) := by decide +kernel
theorem dX10_init_99 : decode cX10_init 99 = .ok (.bipush 8, 2) := by decide +kernel
theorem dX10_init_101 : decode cX10_init 101 = .ok (.bipush 100, 2) := by decide +kernel
theorem dX10_init_103 : decode cX10_init 103 = .ok (.iastore, 1) := by decide +kernel
theorem dX10_init_104 : decode cX10_init 104 = .ok (.aload_n 0, 1) := by decide +kernel
theorem dX10_init_105 : decode cX10_init 105 = .ok (.getfield 7, 3) := by decide +kernel
theorem dX10_init_108 : decode cX10_init 108 = .ok (.bipush 9, 2) := by decide +kernel
theorem dX10_init_110 : decode cX10_init 110 = .ok (.bipush 50, 2) := by decide +kernel
theorem dX10_init_112 : decode cX10_init 112 = .ok (.iastore, 1) := by decide +kernel
theorem dX10_init_113 : decode cX10_init 113 = .ok (.aload_n 0, 1) := by decide +kernel
theorem dX10_init_114 : decode cX10_init 114 = .ok (.getfield 7, 3) := by decide +kernel
theorem dX10_init_117 : decode cX10_init 117 = .ok (.bipush 12, 2) := by decide +kernel
theorem dX10_init_119 : decode cX10_init 119 = .ok (.iconst 5, 1) := by decide +kernel
theorem dX10_init_120 : decode cX10_init 120 = .ok (.iastore, 1) := by decide +kernel
theorem dX10_init_121 : decode cX10_init 121 = .ok (.return_, 1) := by decide +kernel
theorem dX10_in_0 : decode cX10_in 0 = .ok (.iload_n 0, 1) := by decide +kernel
theorem dX10_in_1 : decode cX10_in 1 = .ok (.iload_n 1, 1) := by decide +kernel
theorem dX10_in_2 : decode cX10_in 2 = .ok (.if_icmp .lt 12, 3) := by decide +kernel
theorem dX10_in_5 : decode cX10_in 5 = .ok (.iload_n 0, 1) := by decide +kernel
theorem dX10_in_6 : decode cX10_in 6 = .ok (.iload_n 2, 1) := by decide +kernel
theorem dX10_in_7 : decode cX10_in 7 = .ok (.if_icmp .gt 7, 3) := by decide +kernel
theorem dX10_in_10 : decode cX10_in 10 = .ok (.iconst 1, 1) := by decide +kernel
theorem dX10_in_11 : decode cX10_in 11 = .ok (.goto 4, 3) := by decide +kernel
theorem dX10_in_14 : decode cX10_in 14 = .ok (.iconst 0, 1) := by decide +kernel
theorem dX10_in_15 : decode cX10_in 15 = .ok (.ireturn, 1) := by decide +kernel
set_option maxRecDepth 20000 in
theorem ggX10_isCustomer_X10_in : GoodIn wsX10_isCustomer wsX10_in := goodIn_r _ [5] (by decide +kernel) (by decide +kernel)
set_option maxRecDepth 20000 in
theorem gX10_isCustomer_X10_in : GoodIn wsX10_isCustomer (va_wsS RX10 32 yX10_in wsX10_in) := goodIn_app (goodIn_of _ (by decide +kernel)) ggX10_isCustomer_X10_in
theorem dX10_isCustomer_0 : decode cX10_isCustomer 0 = .ok (.iload_n 1, 1) := by decide +kernel
theorem dX10_isCustomer_1 : decode cX10_isCustomer 1 = .ok (.iconst 0, 1) := by decide +kernel
theorem dX10_isCustomer_2 : decode cX10_isCustomer 2 = .ok (.aload_n 0, 1) := by decide +kernel
theorem dX10_isCustomer_3 : decode cX10_isCustomer 3 = .ok (.getfield 7, 3) := by decide +kernel
theorem dX10_isCustomer_6 : decode cX10_isCustomer 6 = .ok (.bipush 14, 2) := by decide +kernel
theorem dX10_isCustomer_8 : decode cX10_isCustomer 8 = .ok (.iaload, 1) := by decide +kernel
theorem dX10_isCustomer_9 : decode cX10_isCustomer 9 = .ok (.iconst 1, 1) := by decide +kernel
theorem dX10_isCustomer_10 : decode cX10_isCustomer 10 = .ok (.isub, 1) := by decide +kernel
theorem dX10_isCustomer_11 : decode cX10_isCustomer 11 = .ok (.invokestatic 32, 3) := by decide +kernel
theorem dX10_isCustomer_14 : decode cX10_isCustomer 14 = .ok (.ireturn, 1) := by decide +kernel
set_option maxRecDepth 20000 in
theorem ggX10_isPrize_X10_in : GoodIn wsX10_isPrize wsX10_in := goodIn_r _ [5] (by decide +kernel) (by decide +kernel)
set_option maxRecDepth 20000 in
theorem gX10_isPrize_X10_in : GoodIn wsX10_isPrize (va_wsS RX10 32 yX10_in wsX10_in) := goodIn_app (goodIn_of _ (by decide +kernel)) ggX10_isPrize_X10_in
theorem dX10_isPrize_0 : decode cX10_isPrize 0 = .ok (.iload_n 1, 1) := by decide +kernel
theorem dX10_isPrize_1 : decode cX10_isPrize 1 = .ok (.iconst 0, 1) := by decide +kernel
theorem dX10_isPrize_2 : decode cX10_isPrize 2 = .ok (.aload_n 0, 1) := by decide +kernel
theorem dX10_isPrize_3 : decode cX10_isPrize 3 = .ok (.getfield 7, 3) := by decide +kernel
theorem dX10_isPrize_6 : decode cX10_isPrize 6 = .ok (.bipush 15, 2) := by decide +kernel
theorem dX10_isPrize_8 : decode cX10_isPrize 8 = .ok (.iaload, 1) := by decide +kernel
theorem dX10_isPrize_9 : decode cX10_isPrize 9 = .ok (.iconst 1, 1) := by decide +kernel
theorem dX10_isPrize_10 : decode cX10_isPrize 10 = .ok (.isub, 1) := by decide +kernel
theorem dX10_isPrize_11 : decode cX10_isPrize 11 = .ok (.invokestatic 32, 3) := by decide +kernel
theorem dX10_isPrize_14 : decode cX10_isPrize 14 = .ok (.ireturn, 1) := by decide +kernel
set_option maxRecDepth 20000 in
theorem ggX10_isKind_X10_in : GoodIn wsX10_isKind wsX10_in := goodIn_r _ [4] (by decide +kernel) (by decide +kernel)
set_option maxRecDepth 20000 in
theorem gX10_isKind_X10_in : GoodIn wsX10_isKind (va_wsS RX10 32 yX10_in wsX10_in) := goodIn_app (goodIn_of _ (by decide +kernel)) ggX10_isKind_X10_in
theorem dX10_isKind_0 : decode cX10_isKind 0 = .ok (.iload_n 0, 1) := by decide +kernel
theorem dX10_isKind_1 : decode cX10_isKind 1 = .ok (.iconst 0, 1) := by decide +kernel
theorem dX10_isKind_2 : decode cX10_isKind 2 = .ok (.iconst 3, 1) := by decide +kernel
theorem dX10_isKind_3 : decode cX10_isKind 3 = .ok (.invokestatic 32, 3) := by decide +kernel
theorem dX10_isKind_6 : decode cX10_isKind 6 = .ok (.ireturn, 1) := by decide +kernel
theorem dX10_of_0 : decode cX10_of 0 = .ok (.aload_n 0, 1) := by decide +kernel
theorem dX10_of_1 : decode cX10_of 1 = .ok (.getfield 7, 3) := by decide +kernel
theorem dX10_of_4 : decode cX10_of 4 = .ok (.bipush 16, 2) := by decide +kernel
theorem dX10_of_6 : decode cX10_of 6 = .ok (.bipush 6, 2) := by decide +kernel
theorem dX10_of_8 : decode cX10_of 8 = .ok (.iload_n 1, 1) := by decide +kernel
theorem dX10_of_9 : decode cX10_of 9 = .ok (.imul, 1) := by decide +kernel
theorem dX10_of_10 : decode cX10_of 10 = .ok (.iadd, 1) := by decide +kernel
theorem dX10_of_11 : decode cX10_of 11 = .ok (.iload_n 2, 1) := by decide +kernel
theorem dX10_of_12 : decode cX10_of 12 = .ok (.iadd, 1) := by decide +kernel
theorem dX10_of_13 : decode cX10_of 13 = .ok (.iaload, 1) := by decide +kernel
theorem dX10_of_14 : decode cX10_of 14 = .ok (.ireturn, 1) := by decide +kernel
theorem dX10_priced_0 : decode cX10_priced 0 = .ok (.aload_n 0, 1) := by decide +kernel
theorem dX10_priced_1 : decode cX10_priced 1 = .ok (.getfield 7, 3) := by decide +kernel
theorem dX10_priced_4 : decode cX10_priced 4 = .ok (.bipush 52, 2) := by decide +kernel
theorem dX10_priced_6 : decode cX10_priced 6 = .ok (.bipush 7, 2) := by decide +kernel
theorem dX10_priced_8 : decode cX10_priced 8 = .ok (.iload_n 1, 1) := by decide +kernel
theorem dX10_priced_9 : decode cX10_priced 9 = .ok (.imul, 1) := by decide +kernel
theorem dX10_priced_10 : decode cX10_priced 10 = .ok (.iadd, 1) := by decide +kernel
theorem dX10_priced_11 : decode cX10_priced 11 = .ok (.iload_n 2, 1) := by decide +kernel
theorem dX10_priced_12 : decode cX10_priced 12 = .ok (.iadd, 1) := by decide +kernel
theorem dX10_priced_13 : decode cX10_priced 13 = .ok (.iaload, 1) := by decide +kernel
theorem dX10_priced_14 : decode cX10_priced 14 = .ok (.ireturn, 1) := by decide +kernel
theorem dX10_pushes_0 : decode cX10_pushes 0 = .ok (.aload_n 0, 1) := by decide +kernel
theorem dX10_pushes_1 : decode cX10_pushes 1 = .ok (.getfield 36, 3) := by decide +kernel
theorem dX10_pushes_4 : decode cX10_pushes 4 = .ok (.iconst 5, 1) := by decide +kernel
theorem dX10_pushes_5 : decode cX10_pushes 5 = .ok (.if_icmp .ne 44, 3) := by decide +kernel
theorem dX10_pushes_8 : decode cX10_pushes 8 = .ok (.iconst 0, 1) := by decide +kernel
theorem dX10_pushes_9 : decode cX10_pushes 9 = .ok (.istore_n 2, 1) := by decide +kernel
theorem dX10_pushes_10 : decode cX10_pushes 10 = .ok (.iload_n 2, 1) := by decide +kernel
theorem dX10_pushes_11 : decode cX10_pushes 11 = .ok (.sipush 1136, 3) := by decide +kernel
theorem dX10_pushes_14 : decode cX10_pushes 14 = .ok (.if_icmp .ge 25, 3) := by decide +kernel
theorem dX10_pushes_17 : decode cX10_pushes 17 = .ok (.aload_n 0, 1) := by decide +kernel
theorem dX10_pushes_18 : decode cX10_pushes 18 = .ok (.getfield 19, 3) := by decide +kernel
theorem dX10_pushes_21 : decode cX10_pushes 21 = .ok (.iload_n 2, 1) := by decide +kernel
theorem dX10_pushes_22 : decode cX10_pushes 22 = .ok (.aload_n 0, 1) := by decide +kernel
theorem dX10_pushes_23 : decode cX10_pushes 23 = .ok (.getfield 19, 3) := by decide +kernel
theorem dX10_pushes_26 : decode cX10_pushes 26 = .ok (.iload_n 2, 1) := by decide +kernel
theorem dX10_pushes_27 : decode cX10_pushes 27 = .ok (.sipush 284, 3) := by decide +kernel
theorem dX10_pushes_30 : decode cX10_pushes 30 = .ok (.iadd, 1) := by decide +kernel
theorem dX10_pushes_31 : decode cX10_pushes 31 = .ok (.iaload, 1) := by decide +kernel
theorem dX10_pushes_32 : decode cX10_pushes 32 = .ok (.iastore, 1) := by decide +kernel
theorem dX10_pushes_33 : decode cX10_pushes 33 = .ok (.iinc 2 1, 3) := by decide +kernel
theorem dX10_pushes_36 : decode cX10_pushes 36 = .ok (.goto (-26), 3) := by decide +kernel
theorem dX10_pushes_39 : decode cX10_pushes 39 = .ok (.aload_n 0, 1) := by decide +kernel
theorem dX10_pushes_40 : decode cX10_pushes 40 = .ok (.dup, 1) := by decide +kernel
theorem dX10_pushes_41 : decode cX10_pushes 41 = .ok (.getfield 36, 3) := by decide +kernel
theorem dX10_pushes_44 : decode cX10_pushes 44 = .ok (.iconst 1, 1) := by decide +kernel
theorem dX10_pushes_45 : decode cX10_pushes 45 = .ok (.isub, 1) := by decide +kernel
theorem dX10_pushes_46 : decode cX10_pushes 46 = .ok (.putfield 36, 3) := by decide +kernel
theorem dX10_pushes_49 : decode cX10_pushes 49 = .ok (.iconst 0, 1) := by decide +kernel
theorem dX10_pushes_50 : decode cX10_pushes 50 = .ok (.istore_n 2, 1) := by decide +kernel
theorem dX10_pushes_51 : decode cX10_pushes 51 = .ok (.iload_n 2, 1) := by decide +kernel
theorem dX10_pushes_52 : decode cX10_pushes 52 = .ok (.sipush 284, 3) := by decide +kernel
theorem dX10_pushes_55 : decode cX10_pushes 55 = .ok (.if_icmp .ge 27, 3) := by decide +kernel
theorem dX10_pushes_58 : decode cX10_pushes 58 = .ok (.aload_n 0, 1) := by decide +kernel
theorem dX10_pushes_59 : decode cX10_pushes 59 = .ok (.getfield 19, 3) := by decide +kernel
theorem dX10_pushes_62 : decode cX10_pushes 62 = .ok (.sipush 284, 3) := by decide +kernel
theorem dX10_pushes_65 : decode cX10_pushes 65 = .ok (.aload_n 0, 1) := by decide +kernel
theorem dX10_pushes_66 : decode cX10_pushes 66 = .ok (.getfield 36, 3) := by decide +kernel
theorem dX10_pushes_69 : decode cX10_pushes 69 = .ok (.imul, 1) := by decide +kernel
theorem dX10_pushes_70 : decode cX10_pushes 70 = .ok (.iload_n 2, 1) := by decide +kernel
theorem dX10_pushes_71 : decode cX10_pushes 71 = .ok (.iadd, 1) := by decide +kernel
theorem dX10_pushes_72 : decode cX10_pushes 72 = .ok (.aload_n 1, 1) := by decide +kernel
theorem dX10_pushes_73 : decode cX10_pushes 73 = .ok (.iload_n 2, 1) := by decide +kernel
theorem dX10_pushes_74 : decode cX10_pushes 74 = .ok (.iaload, 1) := by decide +kernel
theorem dX10_pushes_75 : decode cX10_pushes 75 = .ok (.iastore, 1) := by decide +kernel
theorem dX10_pushes_76 : decode cX10_pushes 76 = .ok (.iinc 2 1, 3) := by decide +kernel
theorem dX10_pushes_79 : decode cX10_pushes 79 = .ok (.goto (-28), 3) := by decide +kernel
theorem dX10_pushes_82 : decode cX10_pushes 82 = .ok (.aload_n 0, 1) := by decide +kernel
theorem dX10_pushes_83 : decode cX10_pushes 83 = .ok (.dup, 1) := by decide +kernel
theorem dX10_pushes_84 : decode cX10_pushes 84 = .ok (.getfield 36, 3) := by decide +kernel
theorem dX10_pushes_87 : decode cX10_pushes 87 = .ok (.iconst 1, 1) := by decide +kernel
theorem dX10_pushes_88 : decode cX10_pushes 88 = .ok (.iadd, 1) := by decide +kernel
theorem dX10_pushes_89 : decode cX10_pushes 89 = .ok (.putfield 36, 3) := by decide +kernel
theorem dX10_pushes_92 : decode cX10_pushes 92 = .ok (.return_, 1) := by decide +kernel
theorem dX10_keeps_0 : decode cX10_keeps 0 = .ok (.iconst 0, 1) := by decide +kernel
theorem dX10_keeps_1 : decode cX10_keeps 1 = .ok (.istore_n 1, 1) := by decide +kernel
theorem dX10_keeps_2 : decode cX10_keeps 2 = .ok (.iload_n 1, 1) := by decide +kernel
theorem dX10_keeps_3 : decode cX10_keeps 3 = .ok (.sipush 284, 3) := by decide +kernel
theorem dX10_keeps_6 : decode cX10_keeps 6 = .ok (.if_icmp .ge 21, 3) := by decide +kernel
theorem dX10_keeps_9 : decode cX10_keeps 9 = .ok (.aload_n 0, 1) := by decide +kernel
theorem dX10_keeps_10 : decode cX10_keeps 10 = .ok (.getfield 13, 3) := by decide +kernel
theorem dX10_keeps_13 : decode cX10_keeps 13 = .ok (.iload_n 1, 1) := by decide +kernel
theorem dX10_keeps_14 : decode cX10_keeps 14 = .ok (.aload_n 0, 1) := by decide +kernel
theorem dX10_keeps_15 : decode cX10_keeps 15 = .ok (.getfield 7, 3) := by decide +kernel
theorem dX10_keeps_18 : decode cX10_keeps 18 = .ok (.iload_n 1, 1) := by decide +kernel
theorem dX10_keeps_19 : decode cX10_keeps 19 = .ok (.iaload, 1) := by decide +kernel
theorem dX10_keeps_20 : decode cX10_keeps 20 = .ok (.iastore, 1) := by decide +kernel
theorem dX10_keeps_21 : decode cX10_keeps 21 = .ok (.iinc 1 1, 3) := by decide +kernel
theorem dX10_keeps_24 : decode cX10_keeps 24 = .ok (.goto (-22), 3) := by decide +kernel
theorem dX10_keeps_27 : decode cX10_keeps 27 = .ok (.return_, 1) := by decide +kernel
set_option maxRecDepth 20000 in
theorem ggX10_acted_X10_pushes : GoodIn wsX10_acted wsX10_pushes := goodIn_r _ [7, 8, 9, 10, 11, 12, 13, 14, 15, 16, 17, 18, 19, 20, 21, 22, 23, 24] (by decide +kernel) (by decide +kernel)
set_option maxRecDepth 20000 in
theorem gX10_acted_X10_pushes : GoodIn wsX10_acted (wsV RX10 41 RX10 yX10_pushes wsX10_pushes) := goodIn_app (goodIn_of _ (by decide +kernel)) ggX10_acted_X10_pushes
theorem dX10_acted_0 : decode cX10_acted 0 = .ok (.iload_n 1, 1) := by decide +kernel
theorem dX10_acted_1 : decode cX10_acted 1 = .ok (.ldc 40, 2) := by decide +kernel
theorem dX10_acted_3 : decode cX10_acted 3 = .ok (.if_icmp .le 11, 3) := by decide +kernel
theorem dX10_acted_6 : decode cX10_acted 6 = .ok (.aload_n 0, 1) := by decide +kernel
theorem dX10_acted_7 : decode cX10_acted 7 = .ok (.aload_n 0, 1) := by decide +kernel
theorem dX10_acted_8 : decode cX10_acted 8 = .ok (.getfield 13, 3) := by decide +kernel
theorem dX10_acted_11 : decode cX10_acted 11 = .ok (.invokevirtual 41, 3) := by decide +kernel
theorem dX10_acted_14 : decode cX10_acted 14 = .ok (.iload_n 1, 1) := by decide +kernel
theorem dX10_acted_15 : decode cX10_acted 15 = .ok (.ireturn, 1) := by decide +kernel
theorem dX10_floors_0 : decode cX10_floors 0 = .ok (.iload_n 0, 1) := by decide +kernel
theorem dX10_floors_1 : decode cX10_floors 1 = .ok (.iload_n 1, 1) := by decide +kernel
theorem dX10_floors_2 : decode cX10_floors 2 = .ok (.idiv, 1) := by decide +kernel
theorem dX10_floors_3 : decode cX10_floors 3 = .ok (.istore_n 2, 1) := by decide +kernel
theorem dX10_floors_4 : decode cX10_floors 4 = .ok (.iload_n 0, 1) := by decide +kernel
theorem dX10_floors_5 : decode cX10_floors 5 = .ok (.iload_n 1, 1) := by decide +kernel
theorem dX10_floors_6 : decode cX10_floors 6 = .ok (.irem, 1) := by decide +kernel
theorem dX10_floors_7 : decode cX10_floors 7 = .ok (.ifCond .ge 9, 3) := by decide +kernel
theorem dX10_floors_10 : decode cX10_floors 10 = .ok (.iload_n 2, 1) := by decide +kernel
theorem dX10_floors_11 : decode cX10_floors 11 = .ok (.iconst 1, 1) := by decide +kernel
theorem dX10_floors_12 : decode cX10_floors 12 = .ok (.isub, 1) := by decide +kernel
theorem dX10_floors_13 : decode cX10_floors 13 = .ok (.goto 4, 3) := by decide +kernel
theorem dX10_floors_16 : decode cX10_floors 16 = .ok (.iload_n 2, 1) := by decide +kernel
theorem dX10_floors_17 : decode cX10_floors 17 = .ok (.ireturn, 1) := by decide +kernel
set_option maxRecDepth 20000 in
theorem ggX10_readsBy_X10_floors : GoodIn wsX10_readsBy wsX10_floors := goodIn_r _ [4] (by decide +kernel) (by decide +kernel)
set_option maxRecDepth 20000 in
theorem gX10_readsBy_X10_floors : GoodIn wsX10_readsBy (va_wsS RX10 45 yX10_floors wsX10_floors) := goodIn_app (goodIn_of _ (by decide +kernel)) ggX10_readsBy_X10_floors
theorem dX10_readsBy_0 : decode cX10_readsBy 0 = .ok (.iconst 2, 1) := by decide +kernel
theorem dX10_readsBy_1 : decode cX10_readsBy 1 = .ok (.iload_n 1, 1) := by decide +kernel
theorem dX10_readsBy_2 : decode cX10_readsBy 2 = .ok (.imul, 1) := by decide +kernel
theorem dX10_readsBy_3 : decode cX10_readsBy 3 = .ok (.iload_n 2, 1) := by decide +kernel
theorem dX10_readsBy_4 : decode cX10_readsBy 4 = .ok (.iadd, 1) := by decide +kernel
theorem dX10_readsBy_5 : decode cX10_readsBy 5 = .ok (.iconst 2, 1) := by decide +kernel
theorem dX10_readsBy_6 : decode cX10_readsBy 6 = .ok (.iload_n 2, 1) := by decide +kernel
theorem dX10_readsBy_7 : decode cX10_readsBy 7 = .ok (.imul, 1) := by decide +kernel
theorem dX10_readsBy_8 : decode cX10_readsBy 8 = .ok (.invokestatic 45, 3) := by decide +kernel
theorem dX10_readsBy_11 : decode cX10_readsBy 11 = .ok (.istore_n 3, 1) := by decide +kernel
theorem dX10_readsBy_12 : decode cX10_readsBy 12 = .ok (.iload_n 3, 1) := by decide +kernel
theorem dX10_readsBy_13 : decode cX10_readsBy 13 = .ok (.ifCond .ge 7, 3) := by decide +kernel
theorem dX10_readsBy_16 : decode cX10_readsBy 16 = .ok (.iconst 0, 1) := by decide +kernel
theorem dX10_readsBy_17 : decode cX10_readsBy 17 = .ok (.goto 6, 3) := by decide +kernel
theorem dX10_readsBy_20 : decode cX10_readsBy 20 = .ok (.iload_n 3, 1) := by decide +kernel
theorem dX10_readsBy_21 : decode cX10_readsBy 21 = .ok (.iload_n 2, 1) := by decide +kernel
theorem dX10_readsBy_22 : decode cX10_readsBy 22 = .ok (.imul, 1) := by decide +kernel
theorem dX10_readsBy_23 : decode cX10_readsBy 23 = .ok (.ireturn, 1) := by decide +kernel
set_option maxRecDepth 20000 in
theorem ggX10_highest_X10_floors : GoodIn wsX10_highest wsX10_floors := goodIn_r _ [5] (by decide +kernel) (by decide +kernel)
set_option maxRecDepth 20000 in
theorem gX10_highest_X10_floors : GoodIn wsX10_highest (va_wsS RX10 45 yX10_floors wsX10_floors) := goodIn_app (goodIn_of _ (by decide +kernel)) ggX10_highest_X10_floors
theorem dX10_highest_0 : decode cX10_highest 0 = .ok (.iconst 2, 1) := by decide +kernel
theorem dX10_highest_1 : decode cX10_highest 1 = .ok (.iload_n 1, 1) := by decide +kernel
theorem dX10_highest_2 : decode cX10_highest 2 = .ok (.imul, 1) := by decide +kernel
theorem dX10_highest_3 : decode cX10_highest 3 = .ok (.aload_n 0, 1) := by decide +kernel
theorem dX10_highest_4 : decode cX10_highest 4 = .ok (.getfield 7, 3) := by decide +kernel
theorem dX10_highest_7 : decode cX10_highest 7 = .ok (.bipush 8, 2) := by decide +kernel
theorem dX10_highest_9 : decode cX10_highest 9 = .ok (.iaload, 1) := by decide +kernel
theorem dX10_highest_10 : decode cX10_highest 10 = .ok (.iadd, 1) := by decide +kernel
theorem dX10_highest_11 : decode cX10_highest 11 = .ok (.iconst 1, 1) := by decide +kernel
theorem dX10_highest_12 : decode cX10_highest 12 = .ok (.isub, 1) := by decide +kernel
theorem dX10_highest_13 : decode cX10_highest 13 = .ok (.iconst 2, 1) := by decide +kernel
theorem dX10_highest_14 : decode cX10_highest 14 = .ok (.invokestatic 45, 3) := by decide +kernel
theorem dX10_highest_17 : decode cX10_highest 17 = .ok (.ireturn, 1) := by decide +kernel
set_option maxRecDepth 20000 in
theorem ggX10_lowest_X10_floors : GoodIn wsX10_lowest wsX10_floors := goodIn_r _ [6] (by decide +kernel) (by decide +kernel)
set_option maxRecDepth 20000 in
theorem gX10_lowest_X10_floors : GoodIn wsX10_lowest (va_wsS RX10 45 yX10_floors wsX10_floors) := goodIn_app (goodIn_of _ (by decide +kernel)) ggX10_lowest_X10_floors
theorem dX10_lowest_0 : decode cX10_lowest 0 = .ok (.iload_n 1, 1) := by decide +kernel
theorem dX10_lowest_1 : decode cX10_lowest 1 = .ok (.ifCond .ne 8, 3) := by decide +kernel
theorem dX10_lowest_4 : decode cX10_lowest 4 = .ok (.ldc 49, 2) := by decide +kernel
theorem dX10_lowest_6 : decode cX10_lowest 6 = .ok (.goto 20, 3) := by decide +kernel
theorem dX10_lowest_9 : decode cX10_lowest 9 = .ok (.iconst 2, 1) := by decide +kernel
theorem dX10_lowest_10 : decode cX10_lowest 10 = .ok (.iload_n 1, 1) := by decide +kernel
theorem dX10_lowest_11 : decode cX10_lowest 11 = .ok (.imul, 1) := by decide +kernel
theorem dX10_lowest_12 : decode cX10_lowest 12 = .ok (.aload_n 0, 1) := by decide +kernel
theorem dX10_lowest_13 : decode cX10_lowest 13 = .ok (.getfield 7, 3) := by decide +kernel
theorem dX10_lowest_16 : decode cX10_lowest 16 = .ok (.bipush 8, 2) := by decide +kernel
theorem dX10_lowest_18 : decode cX10_lowest 18 = .ok (.iaload, 1) := by decide +kernel
theorem dX10_lowest_19 : decode cX10_lowest 19 = .ok (.isub, 1) := by decide +kernel
theorem dX10_lowest_20 : decode cX10_lowest 20 = .ok (.iconst 1, 1) := by decide +kernel
theorem dX10_lowest_21 : decode cX10_lowest 21 = .ok (.iadd, 1) := by decide +kernel
theorem dX10_lowest_22 : decode cX10_lowest 22 = .ok (.iconst 2, 1) := by decide +kernel
theorem dX10_lowest_23 : decode cX10_lowest 23 = .ok (.invokestatic 45, 3) := by decide +kernel
theorem dX10_lowest_26 : decode cX10_lowest 26 = .ok (.ireturn, 1) := by decide +kernel
set_option maxRecDepth 20000 in
theorem ggX10_allows_X10_lowest : GoodIn wsX10_allows wsX10_lowest := goodIn_r _ [8, 9, 1, 10, 11, 7, 12, 17, 18, 19, 20, 21, 22, 23, 24, 25, 26, 27, 28, 29, 30, 31] (by decide +kernel) (by decide +kernel)
set_option maxRecDepth 20000 in
theorem gX10_allows_X10_lowest : GoodIn wsX10_allows (wsV RX10 50 RX10 yX10_lowest wsX10_lowest) := goodIn_app (goodIn_of _ (by decide +kernel)) ggX10_allows_X10_lowest
set_option maxRecDepth 20000 in
theorem ggX10_allows_X10_highest : GoodIn wsX10_allows wsX10_highest := goodIn_r _ [16, 1, 10, 11, 7, 12, 17, 18, 19, 20, 21, 22, 23, 24, 25, 26, 27, 28, 29, 30, 31] (by decide +kernel) (by decide +kernel)
set_option maxRecDepth 20000 in
theorem gX10_allows_X10_highest : GoodIn wsX10_allows (wsV RX10 57 RX10 yX10_highest wsX10_highest) := goodIn_app (goodIn_of _ (by decide +kernel)) ggX10_allows_X10_highest
theorem dX10_allows_0 : decode cX10_allows 0 = .ok (.iload_n 1, 1) := by decide +kernel
theorem dX10_allows_1 : decode cX10_allows 1 = .ok (.aload_n 0, 1) := by decide +kernel
theorem dX10_allows_2 : decode cX10_allows 2 = .ok (.getfield 7, 3) := by decide +kernel
theorem dX10_allows_5 : decode cX10_allows 5 = .ok (.bipush 8, 2) := by decide +kernel
theorem dX10_allows_7 : decode cX10_allows 7 = .ok (.iaload, 1) := by decide +kernel
theorem dX10_allows_8 : decode cX10_allows 8 = .ok (.irem, 1) := by decide +kernel
theorem dX10_allows_9 : decode cX10_allows 9 = .ok (.ifCond .eq 5, 3) := by decide +kernel
theorem dX10_allows_12 : decode cX10_allows 12 = .ok (.iconst 0, 1) := by decide +kernel
theorem dX10_allows_13 : decode cX10_allows 13 = .ok (.ireturn, 1) := by decide +kernel
theorem dX10_allows_14 : decode cX10_allows 14 = .ok (.aload_n 0, 1) := by decide +kernel
theorem dX10_allows_15 : decode cX10_allows 15 = .ok (.getfield 7, 3) := by decide +kernel
theorem dX10_allows_18 : decode cX10_allows 18 = .ok (.iload_n 2, 1) := by decide +kernel
theorem dX10_allows_19 : decode cX10_allows 19 = .ok (.iaload, 1) := by decide +kernel
theorem dX10_allows_20 : decode cX10_allows 20 = .ok (.aload_n 0, 1) := by decide +kernel
theorem dX10_allows_21 : decode cX10_allows 21 = .ok (.getfield 7, 3) := by decide +kernel
theorem dX10_allows_24 : decode cX10_allows 24 = .ok (.iconst 4, 1) := by decide +kernel
theorem dX10_allows_25 : decode cX10_allows 25 = .ok (.iload_n 2, 1) := by decide +kernel
theorem dX10_allows_26 : decode cX10_allows 26 = .ok (.iadd, 1) := by decide +kernel
theorem dX10_allows_27 : decode cX10_allows 27 = .ok (.iaload, 1) := by decide +kernel
theorem dX10_allows_28 : decode cX10_allows 28 = .ok (.isub, 1) := by decide +kernel
theorem dX10_allows_29 : decode cX10_allows 29 = .ok (.istore_n 3, 1) := by decide +kernel
theorem dX10_allows_30 : decode cX10_allows 30 = .ok (.aload_n 0, 1) := by decide +kernel
theorem dX10_allows_31 : decode cX10_allows 31 = .ok (.getfield 7, 3) := by decide +kernel
theorem dX10_allows_34 : decode cX10_allows 34 = .ok (.iload_n 2, 1) := by decide +kernel
theorem dX10_allows_35 : decode cX10_allows 35 = .ok (.iaload, 1) := by decide +kernel
theorem dX10_allows_36 : decode cX10_allows 36 = .ok (.aload_n 0, 1) := by decide +kernel
theorem dX10_allows_37 : decode cX10_allows 37 = .ok (.getfield 7, 3) := by decide +kernel
theorem dX10_allows_40 : decode cX10_allows 40 = .ok (.iconst 4, 1) := by decide +kernel
theorem dX10_allows_41 : decode cX10_allows 41 = .ok (.iload_n 2, 1) := by decide +kernel
theorem dX10_allows_42 : decode cX10_allows 42 = .ok (.iadd, 1) := by decide +kernel
theorem dX10_allows_43 : decode cX10_allows 43 = .ok (.iaload, 1) := by decide +kernel
theorem dX10_allows_44 : decode cX10_allows 44 = .ok (.iadd, 1) := by decide +kernel
theorem dX10_allows_45 : decode cX10_allows 45 = .ok (.istore 4, 2) := by decide +kernel
theorem dX10_allows_47 : decode cX10_allows 47 = .ok (.aload_n 0, 1) := by decide +kernel
theorem dX10_allows_48 : decode cX10_allows 48 = .ok (.iload_n 1, 1) := by decide +kernel
theorem dX10_allows_49 : decode cX10_allows 49 = .ok (.invokevirtual 50, 3) := by decide +kernel
theorem dX10_allows_52 : decode cX10_allows 52 = .ok (.aload_n 0, 1) := by decide +kernel
theorem dX10_allows_53 : decode cX10_allows 53 = .ok (.getfield 7, 3) := by decide +kernel
theorem dX10_allows_56 : decode cX10_allows 56 = .ok (.bipush 9, 2) := by decide +kernel
theorem dX10_allows_58 : decode cX10_allows 58 = .ok (.iaload, 1) := by decide +kernel
theorem dX10_allows_59 : decode cX10_allows 59 = .ok (.isub, 1) := by decide +kernel
theorem dX10_allows_60 : decode cX10_allows 60 = .ok (.istore 5, 2) := by decide +kernel
theorem dX10_allows_62 : decode cX10_allows 62 = .ok (.aload_n 0, 1) := by decide +kernel
theorem dX10_allows_63 : decode cX10_allows 63 = .ok (.iload 5, 2) := by decide +kernel
theorem dX10_allows_65 : decode cX10_allows 65 = .ok (.ifCond .gt 7, 3) := by decide +kernel
theorem dX10_allows_68 : decode cX10_allows 68 = .ok (.iconst 0, 1) := by decide +kernel
theorem dX10_allows_69 : decode cX10_allows 69 = .ok (.goto 13, 3) := by decide +kernel
theorem dX10_allows_72 : decode cX10_allows 72 = .ok (.iload 5, 2) := by decide +kernel
theorem dX10_allows_74 : decode cX10_allows 74 = .ok (.iload 4, 2) := by decide +kernel
theorem dX10_allows_76 : decode cX10_allows 76 = .ok (.iadd, 1) := by decide +kernel
theorem dX10_allows_77 : decode cX10_allows 77 = .ok (.iconst 1, 1) := by decide +kernel
theorem dX10_allows_78 : decode cX10_allows 78 = .ok (.isub, 1) := by decide +kernel
theorem dX10_allows_79 : decode cX10_allows 79 = .ok (.iload 4, 2) := by decide +kernel
theorem dX10_allows_81 : decode cX10_allows 81 = .ok (.idiv, 1) := by decide +kernel
theorem dX10_allows_82 : decode cX10_allows 82 = .ok (.putfield 54, 3) := by decide +kernel
theorem dX10_allows_85 : decode cX10_allows 85 = .ok (.aload_n 0, 1) := by decide +kernel
theorem dX10_allows_86 : decode cX10_allows 86 = .ok (.aload_n 0, 1) := by decide +kernel
theorem dX10_allows_87 : decode cX10_allows 87 = .ok (.iload_n 1, 1) := by decide +kernel
theorem dX10_allows_88 : decode cX10_allows 88 = .ok (.invokevirtual 57, 3) := by decide +kernel
theorem dX10_allows_91 : decode cX10_allows 91 = .ok (.aload_n 0, 1) := by decide +kernel
theorem dX10_allows_92 : decode cX10_allows 92 = .ok (.getfield 7, 3) := by decide +kernel
theorem dX10_allows_95 : decode cX10_allows 95 = .ok (.bipush 9, 2) := by decide +kernel
theorem dX10_allows_97 : decode cX10_allows 97 = .ok (.iaload, 1) := by decide +kernel
theorem dX10_allows_98 : decode cX10_allows 98 = .ok (.iadd, 1) := by decide +kernel
theorem dX10_allows_99 : decode cX10_allows 99 = .ok (.iload_n 3, 1) := by decide +kernel
theorem dX10_allows_100 : decode cX10_allows 100 = .ok (.idiv, 1) := by decide +kernel
theorem dX10_allows_101 : decode cX10_allows 101 = .ok (.putfield 60, 3) := by decide +kernel
theorem dX10_allows_104 : decode cX10_allows 104 = .ok (.aload_n 0, 1) := by decide +kernel
theorem dX10_allows_105 : decode cX10_allows 105 = .ok (.getfield 54, 3) := by decide +kernel
theorem dX10_allows_108 : decode cX10_allows 108 = .ok (.aload_n 0, 1) := by decide +kernel
theorem dX10_allows_109 : decode cX10_allows 109 = .ok (.getfield 60, 3) := by decide +kernel
theorem dX10_allows_112 : decode cX10_allows 112 = .ok (.if_icmp .gt 7, 3) := by decide +kernel
theorem dX10_allows_115 : decode cX10_allows 115 = .ok (.iconst 1, 1) := by decide +kernel
theorem dX10_allows_116 : decode cX10_allows 116 = .ok (.goto 4, 3) := by decide +kernel
theorem dX10_allows_119 : decode cX10_allows 119 = .ok (.iconst 0, 1) := by decide +kernel
theorem dX10_allows_120 : decode cX10_allows 120 = .ok (.ireturn, 1) := by decide +kernel
set_option maxRecDepth 20000 in
theorem ggX10_guesses_X10_allows : GoodIn wsX10_guesses wsX10_allows := goodIn_r _ [9, 4, 2, 3, 10, 11, 12, 8, 13, 14, 15, 16, 17, 18, 19, 20, 21, 22, 23, 24, 25, 26, 27, 28, 29, 30, 31, 32, 33, 34, 35, 36] (by decide +kernel) (by decide +kernel)
set_option maxRecDepth 20000 in
theorem gX10_guesses_X10_allows : GoodIn wsX10_guesses (wsV RX10 63 RX10 yX10_allows wsX10_allows) := goodIn_app (goodIn_of _ (by decide +kernel)) ggX10_guesses_X10_allows
theorem dX10_guesses_0 : decode cX10_guesses 0 = .ok (.aload_n 0, 1) := by decide +kernel
theorem dX10_guesses_1 : decode cX10_guesses 1 = .ok (.iload_n 1, 1) := by decide +kernel
theorem dX10_guesses_2 : decode cX10_guesses 2 = .ok (.iload_n 2, 1) := by decide +kernel
theorem dX10_guesses_3 : decode cX10_guesses 3 = .ok (.invokevirtual 63, 3) := by decide +kernel
theorem dX10_guesses_6 : decode cX10_guesses 6 = .ok (.ifCond .ne 6, 3) := by decide +kernel
theorem dX10_guesses_9 : decode cX10_guesses 9 = .ok (.ldc 67, 2) := by decide +kernel
theorem dX10_guesses_11 : decode cX10_guesses 11 = .ok (.ireturn, 1) := by decide +kernel
theorem dX10_guesses_12 : decode cX10_guesses 12 = .ok (.iload_n 3, 1) := by decide +kernel
theorem dX10_guesses_13 : decode cX10_guesses 13 = .ok (.iconst 1, 1) := by decide +kernel
theorem dX10_guesses_14 : decode cX10_guesses 14 = .ok (.if_icmp .eq 8, 3) := by decide +kernel
theorem dX10_guesses_17 : decode cX10_guesses 17 = .ok (.iload_n 3, 1) := by decide +kernel
theorem dX10_guesses_18 : decode cX10_guesses 18 = .ok (.iconst 2, 1) := by decide +kernel
theorem dX10_guesses_19 : decode cX10_guesses 19 = .ok (.if_icmp .ne 20, 3) := by decide +kernel
theorem dX10_guesses_22 : decode cX10_guesses 22 = .ok (.iload_n 3, 1) := by decide +kernel
theorem dX10_guesses_23 : decode cX10_guesses 23 = .ok (.iconst 1, 1) := by decide +kernel
theorem dX10_guesses_24 : decode cX10_guesses 24 = .ok (.if_icmp .ne 10, 3) := by decide +kernel
theorem dX10_guesses_27 : decode cX10_guesses 27 = .ok (.aload_n 0, 1) := by decide +kernel
theorem dX10_guesses_28 : decode cX10_guesses 28 = .ok (.getfield 54, 3) := by decide +kernel
theorem dX10_guesses_31 : decode cX10_guesses 31 = .ok (.goto 7, 3) := by decide +kernel
theorem dX10_guesses_34 : decode cX10_guesses 34 = .ok (.aload_n 0, 1) := by decide +kernel
theorem dX10_guesses_35 : decode cX10_guesses 35 = .ok (.getfield 60, 3) := by decide +kernel
theorem dX10_guesses_38 : decode cX10_guesses 38 = .ok (.ireturn, 1) := by decide +kernel
theorem dX10_guesses_39 : decode cX10_guesses 39 = .ok (.iload_n 3, 1) := by decide +kernel
theorem dX10_guesses_40 : decode cX10_guesses 40 = .ok (.iconst 3, 1) := by decide +kernel
theorem dX10_guesses_41 : decode cX10_guesses 41 = .ok (.if_icmp .ne 15, 3) := by decide +kernel
theorem dX10_guesses_44 : decode cX10_guesses 44 = .ok (.aload_n 0, 1) := by decide +kernel
theorem dX10_guesses_45 : decode cX10_guesses 45 = .ok (.getfield 54, 3) := by decide +kernel
theorem dX10_guesses_48 : decode cX10_guesses 48 = .ok (.aload_n 0, 1) := by decide +kernel
theorem dX10_guesses_49 : decode cX10_guesses 49 = .ok (.getfield 60, 3) := by decide +kernel
theorem dX10_guesses_52 : decode cX10_guesses 52 = .ok (.iadd, 1) := by decide +kernel
theorem dX10_guesses_53 : decode cX10_guesses 53 = .ok (.iconst 2, 1) := by decide +kernel
theorem dX10_guesses_54 : decode cX10_guesses 54 = .ok (.idiv, 1) := by decide +kernel
theorem dX10_guesses_55 : decode cX10_guesses 55 = .ok (.ireturn, 1) := by decide +kernel
theorem dX10_guesses_56 : decode cX10_guesses 56 = .ok (.aload_n 0, 1) := by decide +kernel
theorem dX10_guesses_57 : decode cX10_guesses 57 = .ok (.getfield 7, 3) := by decide +kernel
theorem dX10_guesses_60 : decode cX10_guesses 60 = .ok (.iload_n 2, 1) := by decide +kernel
theorem dX10_guesses_61 : decode cX10_guesses 61 = .ok (.iaload, 1) := by decide +kernel
theorem dX10_guesses_62 : decode cX10_guesses 62 = .ok (.istore 4, 2) := by decide +kernel
theorem dX10_guesses_64 : decode cX10_guesses 64 = .ok (.iload_n 1, 1) := by decide +kernel
theorem dX10_guesses_65 : decode cX10_guesses 65 = .ok (.iload 4, 2) := by decide +kernel
theorem dX10_guesses_67 : decode cX10_guesses 67 = .ok (.idiv, 1) := by decide +kernel
theorem dX10_guesses_68 : decode cX10_guesses 68 = .ok (.istore 5, 2) := by decide +kernel
theorem dX10_guesses_70 : decode cX10_guesses 70 = .ok (.iconst 2, 1) := by decide +kernel
theorem dX10_guesses_71 : decode cX10_guesses 71 = .ok (.iload_n 1, 1) := by decide +kernel
theorem dX10_guesses_72 : decode cX10_guesses 72 = .ok (.iload 5, 2) := by decide +kernel
theorem dX10_guesses_74 : decode cX10_guesses 74 = .ok (.iload 4, 2) := by decide +kernel
theorem dX10_guesses_76 : decode cX10_guesses 76 = .ok (.imul, 1) := by decide +kernel
theorem dX10_guesses_77 : decode cX10_guesses 77 = .ok (.isub, 1) := by decide +kernel
theorem dX10_guesses_78 : decode cX10_guesses 78 = .ok (.imul, 1) := by decide +kernel
theorem dX10_guesses_79 : decode cX10_guesses 79 = .ok (.iload 4, 2) := by decide +kernel
theorem dX10_guesses_81 : decode cX10_guesses 81 = .ok (.if_icmp .le 10, 3) := by decide +kernel
theorem dX10_guesses_84 : decode cX10_guesses 84 = .ok (.iload 5, 2) := by decide +kernel
theorem dX10_guesses_86 : decode cX10_guesses 86 = .ok (.iconst 1, 1) := by decide +kernel
theorem dX10_guesses_87 : decode cX10_guesses 87 = .ok (.iadd, 1) := by decide +kernel
theorem dX10_guesses_88 : decode cX10_guesses 88 = .ok (.goto 5, 3) := by decide +kernel
theorem dX10_guesses_91 : decode cX10_guesses 91 = .ok (.iload 5, 2) := by decide +kernel
theorem dX10_guesses_93 : decode cX10_guesses 93 = .ok (.istore 5, 2) := by decide +kernel
theorem dX10_guesses_95 : decode cX10_guesses 95 = .ok (.iload 5, 2) := by decide +kernel
theorem dX10_guesses_97 : decode cX10_guesses 97 = .ok (.aload_n 0, 1) := by decide +kernel
theorem dX10_guesses_98 : decode cX10_guesses 98 = .ok (.getfield 54, 3) := by decide +kernel
theorem dX10_guesses_101 : decode cX10_guesses 101 = .ok (.if_icmp .ge 10, 3) := by decide +kernel
theorem dX10_guesses_104 : decode cX10_guesses 104 = .ok (.aload_n 0, 1) := by decide +kernel
theorem dX10_guesses_105 : decode cX10_guesses 105 = .ok (.getfield 54, 3) := by decide +kernel
theorem dX10_guesses_108 : decode cX10_guesses 108 = .ok (.goto 21, 3) := by decide +kernel
theorem dX10_guesses_111 : decode cX10_guesses 111 = .ok (.iload 5, 2) := by decide +kernel
theorem dX10_guesses_113 : decode cX10_guesses 113 = .ok (.aload_n 0, 1) := by decide +kernel
theorem dX10_guesses_114 : decode cX10_guesses 114 = .ok (.getfield 60, 3) := by decide +kernel
theorem dX10_guesses_117 : decode cX10_guesses 117 = .ok (.if_icmp .le 10, 3) := by decide +kernel
theorem dX10_guesses_120 : decode cX10_guesses 120 = .ok (.aload_n 0, 1) := by decide +kernel
theorem dX10_guesses_121 : decode cX10_guesses 121 = .ok (.getfield 60, 3) := by decide +kernel
theorem dX10_guesses_124 : decode cX10_guesses 124 = .ok (.goto 5, 3) := by decide +kernel
theorem dX10_guesses_127 : decode cX10_guesses 127 = .ok (.iload 5, 2) := by decide +kernel
theorem dX10_guesses_129 : decode cX10_guesses 129 = .ok (.ireturn, 1) := by decide +kernel
set_option maxRecDepth 20000 in
theorem ggX10_kinds_X10_isKind : GoodIn wsX10_kinds wsX10_isKind := goodIn_r _ [6, 7, 8, 5, 9] (by decide +kernel) (by decide +kernel)
set_option maxRecDepth 20000 in
theorem gX10_kinds_X10_isKind : GoodIn wsX10_kinds (va_wsS RX10 68 yX10_isKind wsX10_isKind) := goodIn_app (goodIn_of _ (by decide +kernel)) ggX10_kinds_X10_isKind
set_option maxRecDepth 20000 in
theorem ggX10_kinds_X10_in : GoodIn wsX10_kinds wsX10_in := goodIn_r _ [9] (by decide +kernel) (by decide +kernel)
set_option maxRecDepth 20000 in
theorem gX10_kinds_X10_in : GoodIn wsX10_kinds (va_wsS RX10 32 yX10_in wsX10_in) := goodIn_app (goodIn_of _ (by decide +kernel)) ggX10_kinds_X10_in
theorem dX10_kinds_0 : decode cX10_kinds 0 = .ok (.iload_n 1, 1) := by decide +kernel
theorem dX10_kinds_1 : decode cX10_kinds 1 = .ok (.invokestatic 68, 3) := by decide +kernel
theorem dX10_kinds_4 : decode cX10_kinds 4 = .ok (.ifCond .eq 25, 3) := by decide +kernel
theorem dX10_kinds_7 : decode cX10_kinds 7 = .ok (.iload_n 2, 1) := by decide +kernel
theorem dX10_kinds_8 : decode cX10_kinds 8 = .ok (.bipush 100, 2) := by decide +kernel
theorem dX10_kinds_10 : decode cX10_kinds 10 = .ok (.sipush 5000, 3) := by decide +kernel
theorem dX10_kinds_13 : decode cX10_kinds 13 = .ok (.invokestatic 32, 3) := by decide +kernel
theorem dX10_kinds_16 : decode cX10_kinds 16 = .ok (.ifCond .eq 13, 3) := by decide +kernel
theorem dX10_kinds_19 : decode cX10_kinds 19 = .ok (.iload_n 3, 1) := by decide +kernel
theorem dX10_kinds_20 : decode cX10_kinds 20 = .ok (.iconst 0, 1) := by decide +kernel
theorem dX10_kinds_21 : decode cX10_kinds 21 = .ok (.bipush 50, 2) := by decide +kernel
theorem dX10_kinds_23 : decode cX10_kinds 23 = .ok (.invokestatic 32, 3) := by decide +kernel
theorem dX10_kinds_26 : decode cX10_kinds 26 = .ok (.ifCond .ne 6, 3) := by decide +kernel
theorem dX10_kinds_29 : decode cX10_kinds 29 = .ok (.ldc 40, 2) := by decide +kernel
theorem dX10_kinds_31 : decode cX10_kinds 31 = .ok (.ireturn, 1) := by decide +kernel
theorem dX10_kinds_32 : decode cX10_kinds 32 = .ok (.aload_n 0, 1) := by decide +kernel
theorem dX10_kinds_33 : decode cX10_kinds 33 = .ok (.getfield 7, 3) := by decide +kernel
theorem dX10_kinds_36 : decode cX10_kinds 36 = .ok (.iload_n 1, 1) := by decide +kernel
theorem dX10_kinds_37 : decode cX10_kinds 37 = .ok (.iaload, 1) := by decide +kernel
theorem dX10_kinds_38 : decode cX10_kinds 38 = .ok (.istore 4, 2) := by decide +kernel
theorem dX10_kinds_40 : decode cX10_kinds 40 = .ok (.aload_n 0, 1) := by decide +kernel
theorem dX10_kinds_41 : decode cX10_kinds 41 = .ok (.getfield 7, 3) := by decide +kernel
theorem dX10_kinds_44 : decode cX10_kinds 44 = .ok (.iload_n 1, 1) := by decide +kernel
theorem dX10_kinds_45 : decode cX10_kinds 45 = .ok (.iload_n 2, 1) := by decide +kernel
theorem dX10_kinds_46 : decode cX10_kinds 46 = .ok (.iastore, 1) := by decide +kernel
theorem dX10_kinds_47 : decode cX10_kinds 47 = .ok (.aload_n 0, 1) := by decide +kernel
theorem dX10_kinds_48 : decode cX10_kinds 48 = .ok (.getfield 7, 3) := by decide +kernel
theorem dX10_kinds_51 : decode cX10_kinds 51 = .ok (.iconst 4, 1) := by decide +kernel
theorem dX10_kinds_52 : decode cX10_kinds 52 = .ok (.iload_n 1, 1) := by decide +kernel
theorem dX10_kinds_53 : decode cX10_kinds 53 = .ok (.iadd, 1) := by decide +kernel
theorem dX10_kinds_54 : decode cX10_kinds 54 = .ok (.iload_n 3, 1) := by decide +kernel
theorem dX10_kinds_55 : decode cX10_kinds 55 = .ok (.iastore, 1) := by decide +kernel
theorem dX10_kinds_56 : decode cX10_kinds 56 = .ok (.iload 4, 2) := by decide +kernel
theorem dX10_kinds_58 : decode cX10_kinds 58 = .ok (.ireturn, 1) := by decide +kernel
set_option maxRecDepth 20000 in
theorem ggX10_setKind_X10_keeps : GoodIn wsX10_setKind wsX10_keeps := goodIn_r _ [5, 6, 7, 29, 30, 31, 32, 33, 34, 35, 36, 37, 38, 39, 40, 41, 42, 43] (by decide +kernel) (by decide +kernel)
set_option maxRecDepth 20000 in
theorem gX10_setKind_X10_keeps : GoodIn wsX10_setKind (wsV RX10 72 RX10 yX10_keeps wsX10_keeps) := goodIn_app (goodIn_of _ (by decide +kernel)) ggX10_setKind_X10_keeps
set_option maxRecDepth 20000 in
theorem ggX10_setKind_X10_kinds : GoodIn wsX10_setKind wsX10_kinds := goodIn_r _ [11, 12, 7, 13, 14, 4, 15, 16, 17, 18, 29, 30, 31, 32, 33, 34, 35, 36, 37, 38, 39, 40, 41, 42, 43] (by decide +kernel) (by decide +kernel)
set_option maxRecDepth 20000 in
theorem gX10_setKind_X10_kinds : GoodIn wsX10_setKind (wsV RX10 75 RX10 yX10_kinds wsX10_kinds) := goodIn_app (goodIn_of _ (by decide +kernel)) ggX10_setKind_X10_kinds
set_option maxRecDepth 20000 in
theorem ggX10_setKind_X10_acted : GoodIn wsX10_setKind wsX10_acted := goodIn_r _ [22, 12, 6, 23, 24, 25, 4, 26, 27, 28, 29, 30, 31, 32, 33, 34, 35, 36, 37, 38, 39, 40, 41, 42, 43] (by decide +kernel) (by decide +kernel)
set_option maxRecDepth 20000 in
theorem gX10_setKind_X10_acted : GoodIn wsX10_setKind (wsV RX10 79 RX10 yX10_acted wsX10_acted) := goodIn_app (goodIn_of _ (by decide +kernel)) ggX10_setKind_X10_acted
theorem dX10_setKind_0 : decode cX10_setKind 0 = .ok (.aload_n 0, 1) := by decide +kernel
theorem dX10_setKind_1 : decode cX10_setKind 1 = .ok (.invokevirtual 72, 3) := by decide +kernel
theorem dX10_setKind_4 : decode cX10_setKind 4 = .ok (.aload_n 0, 1) := by decide +kernel
theorem dX10_setKind_5 : decode cX10_setKind 5 = .ok (.aload_n 0, 1) := by decide +kernel
theorem dX10_setKind_6 : decode cX10_setKind 6 = .ok (.iload_n 1, 1) := by decide +kernel
theorem dX10_setKind_7 : decode cX10_setKind 7 = .ok (.iload_n 2, 1) := by decide +kernel
theorem dX10_setKind_8 : decode cX10_setKind 8 = .ok (.iload_n 3, 1) := by decide +kernel
theorem dX10_setKind_9 : decode cX10_setKind 9 = .ok (.invokevirtual 75, 3) := by decide +kernel
theorem dX10_setKind_12 : decode cX10_setKind 12 = .ok (.invokevirtual 79, 3) := by decide +kernel
theorem dX10_setKind_15 : decode cX10_setKind 15 = .ok (.ireturn, 1) := by decide +kernel
set_option maxRecDepth 20000 in
theorem ggX10_scales_X10_in : GoodIn wsX10_scales wsX10_in := goodIn_r _ [6] (by decide +kernel) (by decide +kernel)
set_option maxRecDepth 20000 in
theorem gX10_scales_X10_in : GoodIn wsX10_scales (va_wsS RX10 32 yX10_in wsX10_in) := goodIn_app (goodIn_of _ (by decide +kernel)) ggX10_scales_X10_in
theorem dX10_scales_0 : decode cX10_scales 0 = .ok (.iload_n 1, 1) := by decide +kernel
theorem dX10_scales_1 : decode cX10_scales 1 = .ok (.iconst 1, 1) := by decide +kernel
theorem dX10_scales_2 : decode cX10_scales 2 = .ok (.sipush 1000, 3) := by decide +kernel
theorem dX10_scales_5 : decode cX10_scales 5 = .ok (.invokestatic 32, 3) := by decide +kernel
theorem dX10_scales_8 : decode cX10_scales 8 = .ok (.ifCond .eq 14, 3) := by decide +kernel
theorem dX10_scales_11 : decode cX10_scales 11 = .ok (.iload_n 2, 1) := by decide +kernel
theorem dX10_scales_12 : decode cX10_scales 12 = .ok (.iconst 0, 1) := by decide +kernel
theorem dX10_scales_13 : decode cX10_scales 13 = .ok (.sipush 2000, 3) := by decide +kernel
theorem dX10_scales_16 : decode cX10_scales 16 = .ok (.invokestatic 32, 3) := by decide +kernel
theorem dX10_scales_19 : decode cX10_scales 19 = .ok (.ifCond .ne 6, 3) := by decide +kernel
theorem dX10_scales_22 : decode cX10_scales 22 = .ok (.ldc 40, 2) := by decide +kernel
theorem dX10_scales_24 : decode cX10_scales 24 = .ok (.ireturn, 1) := by decide +kernel
theorem dX10_scales_25 : decode cX10_scales 25 = .ok (.aload_n 0, 1) := by decide +kernel
theorem dX10_scales_26 : decode cX10_scales 26 = .ok (.getfield 7, 3) := by decide +kernel
theorem dX10_scales_29 : decode cX10_scales 29 = .ok (.bipush 8, 2) := by decide +kernel
theorem dX10_scales_31 : decode cX10_scales 31 = .ok (.iload_n 1, 1) := by decide +kernel
theorem dX10_scales_32 : decode cX10_scales 32 = .ok (.iastore, 1) := by decide +kernel
theorem dX10_scales_33 : decode cX10_scales 33 = .ok (.aload_n 0, 1) := by decide +kernel
theorem dX10_scales_34 : decode cX10_scales 34 = .ok (.getfield 7, 3) := by decide +kernel
theorem dX10_scales_37 : decode cX10_scales 37 = .ok (.bipush 9, 2) := by decide +kernel
theorem dX10_scales_39 : decode cX10_scales 39 = .ok (.iload_n 2, 1) := by decide +kernel
theorem dX10_scales_40 : decode cX10_scales 40 = .ok (.iastore, 1) := by decide +kernel
theorem dX10_scales_41 : decode cX10_scales 41 = .ok (.aload_n 0, 1) := by decide +kernel
theorem dX10_scales_42 : decode cX10_scales 42 = .ok (.getfield 7, 3) := by decide +kernel
theorem dX10_scales_45 : decode cX10_scales 45 = .ok (.bipush 10, 2) := by decide +kernel
theorem dX10_scales_47 : decode cX10_scales 47 = .ok (.aload_n 0, 1) := by decide +kernel
theorem dX10_scales_48 : decode cX10_scales 48 = .ok (.getfield 7, 3) := by decide +kernel
theorem dX10_scales_51 : decode cX10_scales 51 = .ok (.bipush 10, 2) := by decide +kernel
theorem dX10_scales_53 : decode cX10_scales 53 = .ok (.iaload, 1) := by decide +kernel
theorem dX10_scales_54 : decode cX10_scales 54 = .ok (.iload_n 2, 1) := by decide +kernel
theorem dX10_scales_55 : decode cX10_scales 55 = .ok (.if_icmp .le 7, 3) := by decide +kernel
theorem dX10_scales_58 : decode cX10_scales 58 = .ok (.iload_n 2, 1) := by decide +kernel
theorem dX10_scales_59 : decode cX10_scales 59 = .ok (.goto 27, 3) := by decide +kernel
theorem dX10_scales_62 : decode cX10_scales 62 = .ok (.aload_n 0, 1) := by decide +kernel
theorem dX10_scales_63 : decode cX10_scales 63 = .ok (.getfield 7, 3) := by decide +kernel
theorem dX10_scales_66 : decode cX10_scales 66 = .ok (.bipush 10, 2) := by decide +kernel
theorem dX10_scales_68 : decode cX10_scales 68 = .ok (.iaload, 1) := by decide +kernel
theorem dX10_scales_69 : decode cX10_scales 69 = .ok (.iload_n 2, 1) := by decide +kernel
theorem dX10_scales_70 : decode cX10_scales 70 = .ok (.ineg, 1) := by decide +kernel
theorem dX10_scales_71 : decode cX10_scales 71 = .ok (.if_icmp .ge 8, 3) := by decide +kernel
theorem dX10_scales_74 : decode cX10_scales 74 = .ok (.iload_n 2, 1) := by decide +kernel
theorem dX10_scales_75 : decode cX10_scales 75 = .ok (.ineg, 1) := by decide +kernel
theorem dX10_scales_76 : decode cX10_scales 76 = .ok (.goto 10, 3) := by decide +kernel
theorem dX10_scales_79 : decode cX10_scales 79 = .ok (.aload_n 0, 1) := by decide +kernel
theorem dX10_scales_80 : decode cX10_scales 80 = .ok (.getfield 7, 3) := by decide +kernel
theorem dX10_scales_83 : decode cX10_scales 83 = .ok (.bipush 10, 2) := by decide +kernel
theorem dX10_scales_85 : decode cX10_scales 85 = .ok (.iaload, 1) := by decide +kernel
theorem dX10_scales_86 : decode cX10_scales 86 = .ok (.iastore, 1) := by decide +kernel
theorem dX10_scales_87 : decode cX10_scales 87 = .ok (.aload_n 0, 1) := by decide +kernel
theorem dX10_scales_88 : decode cX10_scales 88 = .ok (.getfield 7, 3) := by decide +kernel
theorem dX10_scales_91 : decode cX10_scales 91 = .ok (.bipush 10, 2) := by decide +kernel
theorem dX10_scales_93 : decode cX10_scales 93 = .ok (.iaload, 1) := by decide +kernel
theorem dX10_scales_94 : decode cX10_scales 94 = .ok (.ireturn, 1) := by decide +kernel
set_option maxRecDepth 20000 in
theorem ggX10_setScale_X10_keeps : GoodIn wsX10_setScale wsX10_keeps := goodIn_r _ [5, 6, 7, 26, 27, 28, 29, 30, 31, 32, 33, 34, 35, 36, 37, 38, 39, 40] (by decide +kernel) (by decide +kernel)
set_option maxRecDepth 20000 in
theorem gX10_setScale_X10_keeps : GoodIn wsX10_setScale (wsV RX10 72 RX10 yX10_keeps wsX10_keeps) := goodIn_app (goodIn_of _ (by decide +kernel)) ggX10_setScale_X10_keeps
set_option maxRecDepth 20000 in
theorem ggX10_setScale_X10_scales : GoodIn wsX10_setScale wsX10_scales := goodIn_r _ [11, 12, 7, 13, 14, 4, 15, 26, 27, 28, 29, 30, 31, 32, 33, 34, 35, 36, 37, 38, 39, 40] (by decide +kernel) (by decide +kernel)
set_option maxRecDepth 20000 in
theorem gX10_setScale_X10_scales : GoodIn wsX10_setScale (wsV RX10 82 RX10 yX10_scales wsX10_scales) := goodIn_app (goodIn_of _ (by decide +kernel)) ggX10_setScale_X10_scales
set_option maxRecDepth 20000 in
theorem ggX10_setScale_X10_acted : GoodIn wsX10_setScale wsX10_acted := goodIn_r _ [19, 12, 6, 20, 21, 22, 4, 23, 24, 25, 26, 27, 28, 29, 30, 31, 32, 33, 34, 35, 36, 37, 38, 39, 40] (by decide +kernel) (by decide +kernel)
set_option maxRecDepth 20000 in
theorem gX10_setScale_X10_acted : GoodIn wsX10_setScale (wsV RX10 79 RX10 yX10_acted wsX10_acted) := goodIn_app (goodIn_of _ (by decide +kernel)) ggX10_setScale_X10_acted
theorem dX10_setScale_0 : decode cX10_setScale 0 = .ok (.aload_n 0, 1) := by decide +kernel
theorem dX10_setScale_1 : decode cX10_setScale 1 = .ok (.invokevirtual 72, 3) := by decide +kernel
theorem dX10_setScale_4 : decode cX10_setScale 4 = .ok (.aload_n 0, 1) := by decide +kernel
theorem dX10_setScale_5 : decode cX10_setScale 5 = .ok (.aload_n 0, 1) := by decide +kernel
theorem dX10_setScale_6 : decode cX10_setScale 6 = .ok (.iload_n 1, 1) := by decide +kernel
theorem dX10_setScale_7 : decode cX10_setScale 7 = .ok (.iload_n 2, 1) := by decide +kernel
theorem dX10_setScale_8 : decode cX10_setScale 8 = .ok (.invokevirtual 82, 3) := by decide +kernel
theorem dX10_setScale_11 : decode cX10_setScale 11 = .ok (.invokevirtual 79, 3) := by decide +kernel
theorem dX10_setScale_14 : decode cX10_setScale 14 = .ok (.ireturn, 1) := by decide +kernel
set_option maxRecDepth 20000 in
theorem ggX10_sets_X10_in : GoodIn wsX10_sets wsX10_in := goodIn_r _ [6] (by decide +kernel) (by decide +kernel)
set_option maxRecDepth 20000 in
theorem gX10_sets_X10_in : GoodIn wsX10_sets (va_wsS RX10 32 yX10_in wsX10_in) := goodIn_app (goodIn_of _ (by decide +kernel)) ggX10_sets_X10_in
theorem dX10_sets_0 : decode cX10_sets 0 = .ok (.iload_n 2, 1) := by decide +kernel
theorem dX10_sets_1 : decode cX10_sets 1 = .ok (.iload_n 3, 1) := by decide +kernel
theorem dX10_sets_2 : decode cX10_sets 2 = .ok (.iload 4, 2) := by decide +kernel
theorem dX10_sets_4 : decode cX10_sets 4 = .ok (.invokestatic 32, 3) := by decide +kernel
theorem dX10_sets_7 : decode cX10_sets 7 = .ok (.ifCond .ne 6, 3) := by decide +kernel
theorem dX10_sets_10 : decode cX10_sets 10 = .ok (.ldc 40, 2) := by decide +kernel
theorem dX10_sets_12 : decode cX10_sets 12 = .ok (.ireturn, 1) := by decide +kernel
theorem dX10_sets_13 : decode cX10_sets 13 = .ok (.aload_n 0, 1) := by decide +kernel
theorem dX10_sets_14 : decode cX10_sets 14 = .ok (.getfield 7, 3) := by decide +kernel
theorem dX10_sets_17 : decode cX10_sets 17 = .ok (.iload_n 1, 1) := by decide +kernel
theorem dX10_sets_18 : decode cX10_sets 18 = .ok (.iaload, 1) := by decide +kernel
theorem dX10_sets_19 : decode cX10_sets 19 = .ok (.istore 5, 2) := by decide +kernel
theorem dX10_sets_21 : decode cX10_sets 21 = .ok (.aload_n 0, 1) := by decide +kernel
theorem dX10_sets_22 : decode cX10_sets 22 = .ok (.getfield 7, 3) := by decide +kernel
theorem dX10_sets_25 : decode cX10_sets 25 = .ok (.iload_n 1, 1) := by decide +kernel
theorem dX10_sets_26 : decode cX10_sets 26 = .ok (.iload_n 2, 1) := by decide +kernel
theorem dX10_sets_27 : decode cX10_sets 27 = .ok (.iastore, 1) := by decide +kernel
theorem dX10_sets_28 : decode cX10_sets 28 = .ok (.iload 5, 2) := by decide +kernel
theorem dX10_sets_30 : decode cX10_sets 30 = .ok (.ireturn, 1) := by decide +kernel
set_option maxRecDepth 20000 in
theorem ggX10_setBias_X10_keeps : GoodIn wsX10_setBias wsX10_keeps := goodIn_r _ [6, 7, 1, 26, 27, 28, 29, 30, 31, 32, 33, 34, 35, 36, 37, 38, 39, 40] (by decide +kernel) (by decide +kernel)
set_option maxRecDepth 20000 in
theorem gX10_setBias_X10_keeps : GoodIn wsX10_setBias (wsV RX10 72 RX10 yX10_keeps wsX10_keeps) := goodIn_app (goodIn_of _ (by decide +kernel)) ggX10_setBias_X10_keeps
set_option maxRecDepth 20000 in
theorem ggX10_setBias_X10_sets : GoodIn wsX10_setBias wsX10_sets := goodIn_r _ [11, 12, 1, 13, 14, 5, 15, 26, 27, 28, 29, 30, 31, 32, 33, 34, 35, 36, 37, 38, 39, 40] (by decide +kernel) (by decide +kernel)
set_option maxRecDepth 20000 in
theorem gX10_setBias_X10_sets : GoodIn wsX10_setBias (wsV RX10 85 RX10 yX10_sets wsX10_sets) := goodIn_app (goodIn_of _ (by decide +kernel)) ggX10_setBias_X10_sets
set_option maxRecDepth 20000 in
theorem ggX10_setBias_X10_acted : GoodIn wsX10_setBias wsX10_acted := goodIn_r _ [19, 12, 7, 20, 21, 22, 5, 23, 24, 25, 26, 27, 28, 29, 30, 31, 32, 33, 34, 35, 36, 37, 38, 39, 40] (by decide +kernel) (by decide +kernel)
set_option maxRecDepth 20000 in
theorem gX10_setBias_X10_acted : GoodIn wsX10_setBias (wsV RX10 79 RX10 yX10_acted wsX10_acted) := goodIn_app (goodIn_of _ (by decide +kernel)) ggX10_setBias_X10_acted
theorem dX10_setBias_0 : decode cX10_setBias 0 = .ok (.aload_n 0, 1) := by decide +kernel
theorem dX10_setBias_1 : decode cX10_setBias 1 = .ok (.invokevirtual 72, 3) := by decide +kernel
theorem dX10_setBias_4 : decode cX10_setBias 4 = .ok (.aload_n 0, 1) := by decide +kernel
theorem dX10_setBias_5 : decode cX10_setBias 5 = .ok (.aload_n 0, 1) := by decide +kernel
theorem dX10_setBias_6 : decode cX10_setBias 6 = .ok (.bipush 10, 2) := by decide +kernel
theorem dX10_setBias_8 : decode cX10_setBias 8 = .ok (.iload_n 1, 1) := by decide +kernel
theorem dX10_setBias_9 : decode cX10_setBias 9 = .ok (.aload_n 0, 1) := by decide +kernel
theorem dX10_setBias_10 : decode cX10_setBias 10 = .ok (.getfield 7, 3) := by decide +kernel
theorem dX10_setBias_13 : decode cX10_setBias 13 = .ok (.bipush 9, 2) := by decide +kernel
theorem dX10_setBias_15 : decode cX10_setBias 15 = .ok (.iaload, 1) := by decide +kernel
theorem dX10_setBias_16 : decode cX10_setBias 16 = .ok (.ineg, 1) := by decide +kernel
theorem dX10_setBias_17 : decode cX10_setBias 17 = .ok (.aload_n 0, 1) := by decide +kernel
theorem dX10_setBias_18 : decode cX10_setBias 18 = .ok (.getfield 7, 3) := by decide +kernel
theorem dX10_setBias_21 : decode cX10_setBias 21 = .ok (.bipush 9, 2) := by decide +kernel
theorem dX10_setBias_23 : decode cX10_setBias 23 = .ok (.iaload, 1) := by decide +kernel
theorem dX10_setBias_24 : decode cX10_setBias 24 = .ok (.invokevirtual 85, 3) := by decide +kernel
theorem dX10_setBias_27 : decode cX10_setBias 27 = .ok (.invokevirtual 79, 3) := by decide +kernel
theorem dX10_setBias_30 : decode cX10_setBias 30 = .ok (.ireturn, 1) := by decide +kernel
set_option maxRecDepth 20000 in
theorem ggX10_setRule_X10_keeps : GoodIn wsX10_setRule wsX10_keeps := goodIn_r _ [5, 6, 7, 26, 27, 28, 29, 30, 31, 32, 33, 34, 35, 36, 37, 38, 39, 40] (by decide +kernel) (by decide +kernel)
set_option maxRecDepth 20000 in
theorem gX10_setRule_X10_keeps : GoodIn wsX10_setRule (wsV RX10 72 RX10 yX10_keeps wsX10_keeps) := goodIn_app (goodIn_of _ (by decide +kernel)) ggX10_setRule_X10_keeps
set_option maxRecDepth 20000 in
theorem ggX10_setRule_X10_sets : GoodIn wsX10_setRule wsX10_sets := goodIn_r _ [11, 12, 7, 13, 14, 4, 15, 26, 27, 28, 29, 30, 31, 32, 33, 34, 35, 36, 37, 38, 39, 40] (by decide +kernel) (by decide +kernel)
set_option maxRecDepth 20000 in
theorem gX10_setRule_X10_sets : GoodIn wsX10_setRule (wsV RX10 85 RX10 yX10_sets wsX10_sets) := goodIn_app (goodIn_of _ (by decide +kernel)) ggX10_setRule_X10_sets
set_option maxRecDepth 20000 in
theorem ggX10_setRule_X10_acted : GoodIn wsX10_setRule wsX10_acted := goodIn_r _ [19, 12, 6, 20, 21, 22, 4, 23, 24, 25, 26, 27, 28, 29, 30, 31, 32, 33, 34, 35, 36, 37, 38, 39, 40] (by decide +kernel) (by decide +kernel)
set_option maxRecDepth 20000 in
theorem gX10_setRule_X10_acted : GoodIn wsX10_setRule (wsV RX10 79 RX10 yX10_acted wsX10_acted) := goodIn_app (goodIn_of _ (by decide +kernel)) ggX10_setRule_X10_acted
theorem dX10_setRule_0 : decode cX10_setRule 0 = .ok (.aload_n 0, 1) := by decide +kernel
theorem dX10_setRule_1 : decode cX10_setRule 1 = .ok (.invokevirtual 72, 3) := by decide +kernel
theorem dX10_setRule_4 : decode cX10_setRule 4 = .ok (.aload_n 0, 1) := by decide +kernel
theorem dX10_setRule_5 : decode cX10_setRule 5 = .ok (.aload_n 0, 1) := by decide +kernel
theorem dX10_setRule_6 : decode cX10_setRule 6 = .ok (.bipush 11, 2) := by decide +kernel
theorem dX10_setRule_8 : decode cX10_setRule 8 = .ok (.iload_n 1, 1) := by decide +kernel
theorem dX10_setRule_9 : decode cX10_setRule 9 = .ok (.iconst 0, 1) := by decide +kernel
theorem dX10_setRule_10 : decode cX10_setRule 10 = .ok (.iconst 3, 1) := by decide +kernel
theorem dX10_setRule_11 : decode cX10_setRule 11 = .ok (.invokevirtual 85, 3) := by decide +kernel
theorem dX10_setRule_14 : decode cX10_setRule 14 = .ok (.invokevirtual 79, 3) := by decide +kernel
theorem dX10_setRule_17 : decode cX10_setRule 17 = .ok (.ireturn, 1) := by decide +kernel
set_option maxRecDepth 20000 in
theorem ggX10_setFee_X10_keeps : GoodIn wsX10_setFee wsX10_keeps := goodIn_r _ [5, 6, 7, 26, 27, 28, 29, 30, 31, 32, 33, 34, 35, 36, 37, 38, 39, 40] (by decide +kernel) (by decide +kernel)
set_option maxRecDepth 20000 in
theorem gX10_setFee_X10_keeps : GoodIn wsX10_setFee (wsV RX10 72 RX10 yX10_keeps wsX10_keeps) := goodIn_app (goodIn_of _ (by decide +kernel)) ggX10_setFee_X10_keeps
set_option maxRecDepth 20000 in
theorem ggX10_setFee_X10_sets : GoodIn wsX10_setFee wsX10_sets := goodIn_r _ [11, 12, 7, 13, 14, 4, 15, 26, 27, 28, 29, 30, 31, 32, 33, 34, 35, 36, 37, 38, 39, 40] (by decide +kernel) (by decide +kernel)
set_option maxRecDepth 20000 in
theorem gX10_setFee_X10_sets : GoodIn wsX10_setFee (wsV RX10 85 RX10 yX10_sets wsX10_sets) := goodIn_app (goodIn_of _ (by decide +kernel)) ggX10_setFee_X10_sets
set_option maxRecDepth 20000 in
theorem ggX10_setFee_X10_acted : GoodIn wsX10_setFee wsX10_acted := goodIn_r _ [19, 12, 6, 20, 21, 22, 4, 23, 24, 25, 26, 27, 28, 29, 30, 31, 32, 33, 34, 35, 36, 37, 38, 39, 40] (by decide +kernel) (by decide +kernel)
set_option maxRecDepth 20000 in
theorem gX10_setFee_X10_acted : GoodIn wsX10_setFee (wsV RX10 79 RX10 yX10_acted wsX10_acted) := goodIn_app (goodIn_of _ (by decide +kernel)) ggX10_setFee_X10_acted
theorem dX10_setFee_0 : decode cX10_setFee 0 = .ok (.aload_n 0, 1) := by decide +kernel
theorem dX10_setFee_1 : decode cX10_setFee 1 = .ok (.invokevirtual 72, 3) := by decide +kernel
theorem dX10_setFee_4 : decode cX10_setFee 4 = .ok (.aload_n 0, 1) := by decide +kernel
theorem dX10_setFee_5 : decode cX10_setFee 5 = .ok (.aload_n 0, 1) := by decide +kernel
theorem dX10_setFee_6 : decode cX10_setFee 6 = .ok (.bipush 12, 2) := by decide +kernel
theorem dX10_setFee_8 : decode cX10_setFee 8 = .ok (.iload_n 1, 1) := by decide +kernel
theorem dX10_setFee_9 : decode cX10_setFee 9 = .ok (.iconst 0, 1) := by decide +kernel
theorem dX10_setFee_10 : decode cX10_setFee 10 = .ok (.bipush 100, 2) := by decide +kernel
theorem dX10_setFee_12 : decode cX10_setFee 12 = .ok (.invokevirtual 85, 3) := by decide +kernel
theorem dX10_setFee_15 : decode cX10_setFee 15 = .ok (.invokevirtual 79, 3) := by decide +kernel
theorem dX10_setFee_18 : decode cX10_setFee 18 = .ok (.ireturn, 1) := by decide +kernel
set_option maxRecDepth 20000 in
theorem ggX10_comes_X10_in : GoodIn wsX10_comes wsX10_in := goodIn_r _ [7] (by decide +kernel) (by decide +kernel)
set_option maxRecDepth 20000 in
theorem gX10_comes_X10_in : GoodIn wsX10_comes (va_wsS RX10 32 yX10_in wsX10_in) := goodIn_app (goodIn_of _ (by decide +kernel)) ggX10_comes_X10_in
theorem dX10_comes_0 : decode cX10_comes 0 = .ok (.iload_n 1, 1) := by decide +kernel
theorem dX10_comes_1 : decode cX10_comes 1 = .ok (.iconst 0, 1) := by decide +kernel
theorem dX10_comes_2 : decode cX10_comes 2 = .ok (.sipush 9999, 3) := by decide +kernel
theorem dX10_comes_5 : decode cX10_comes 5 = .ok (.invokestatic 32, 3) := by decide +kernel
theorem dX10_comes_8 : decode cX10_comes 8 = .ok (.ifCond .ne 6, 3) := by decide +kernel
theorem dX10_comes_11 : decode cX10_comes 11 = .ok (.ldc 40, 2) := by decide +kernel
theorem dX10_comes_13 : decode cX10_comes 13 = .ok (.ireturn, 1) := by decide +kernel
theorem dX10_comes_14 : decode cX10_comes 14 = .ok (.aload_n 0, 1) := by decide +kernel
theorem dX10_comes_15 : decode cX10_comes 15 = .ok (.getfield 7, 3) := by decide +kernel
theorem dX10_comes_18 : decode cX10_comes 18 = .ok (.bipush 14, 2) := by decide +kernel
theorem dX10_comes_20 : decode cX10_comes 20 = .ok (.iaload, 1) := by decide +kernel
theorem dX10_comes_21 : decode cX10_comes 21 = .ok (.bipush 6, 2) := by decide +kernel
theorem dX10_comes_23 : decode cX10_comes 23 = .ok (.if_icmp .ne 6, 3) := by decide +kernel
theorem dX10_comes_26 : decode cX10_comes 26 = .ok (.ldc 89, 2) := by decide +kernel
theorem dX10_comes_28 : decode cX10_comes 28 = .ok (.ireturn, 1) := by decide +kernel
theorem dX10_comes_29 : decode cX10_comes 29 = .ok (.bipush 16, 2) := by decide +kernel
theorem dX10_comes_31 : decode cX10_comes 31 = .ok (.bipush 6, 2) := by decide +kernel
theorem dX10_comes_33 : decode cX10_comes 33 = .ok (.aload_n 0, 1) := by decide +kernel
theorem dX10_comes_34 : decode cX10_comes 34 = .ok (.getfield 7, 3) := by decide +kernel
theorem dX10_comes_37 : decode cX10_comes 37 = .ok (.bipush 14, 2) := by decide +kernel
theorem dX10_comes_39 : decode cX10_comes 39 = .ok (.iaload, 1) := by decide +kernel
theorem dX10_comes_40 : decode cX10_comes 40 = .ok (.imul, 1) := by decide +kernel
theorem dX10_comes_41 : decode cX10_comes 41 = .ok (.iadd, 1) := by decide +kernel
theorem dX10_comes_42 : decode cX10_comes 42 = .ok (.istore_n 2, 1) := by decide +kernel
theorem dX10_comes_43 : decode cX10_comes 43 = .ok (.aload_n 0, 1) := by decide +kernel
theorem dX10_comes_44 : decode cX10_comes 44 = .ok (.getfield 7, 3) := by decide +kernel
theorem dX10_comes_47 : decode cX10_comes 47 = .ok (.iload_n 2, 1) := by decide +kernel
theorem dX10_comes_48 : decode cX10_comes 48 = .ok (.iload_n 1, 1) := by decide +kernel
theorem dX10_comes_49 : decode cX10_comes 49 = .ok (.iastore, 1) := by decide +kernel
theorem dX10_comes_50 : decode cX10_comes 50 = .ok (.aload_n 0, 1) := by decide +kernel
theorem dX10_comes_51 : decode cX10_comes 51 = .ok (.getfield 7, 3) := by decide +kernel
theorem dX10_comes_54 : decode cX10_comes 54 = .ok (.iload_n 2, 1) := by decide +kernel
theorem dX10_comes_55 : decode cX10_comes 55 = .ok (.iconst 1, 1) := by decide +kernel
theorem dX10_comes_56 : decode cX10_comes 56 = .ok (.iadd, 1) := by decide +kernel
theorem dX10_comes_57 : decode cX10_comes 57 = .ok (.iconst 0, 1) := by decide +kernel
theorem dX10_comes_58 : decode cX10_comes 58 = .ok (.iastore, 1) := by decide +kernel
theorem dX10_comes_59 : decode cX10_comes 59 = .ok (.aload_n 0, 1) := by decide +kernel
theorem dX10_comes_60 : decode cX10_comes 60 = .ok (.getfield 7, 3) := by decide +kernel
theorem dX10_comes_63 : decode cX10_comes 63 = .ok (.bipush 14, 2) := by decide +kernel
theorem dX10_comes_65 : decode cX10_comes 65 = .ok (.dup2, 1) := by decide +kernel
theorem dX10_comes_66 : decode cX10_comes 66 = .ok (.iaload, 1) := by decide +kernel
theorem dX10_comes_67 : decode cX10_comes 67 = .ok (.iconst 1, 1) := by decide +kernel
theorem dX10_comes_68 : decode cX10_comes 68 = .ok (.iadd, 1) := by decide +kernel
theorem dX10_comes_69 : decode cX10_comes 69 = .ok (.iastore, 1) := by decide +kernel
theorem dX10_comes_70 : decode cX10_comes 70 = .ok (.aload_n 0, 1) := by decide +kernel
theorem dX10_comes_71 : decode cX10_comes 71 = .ok (.getfield 7, 3) := by decide +kernel
theorem dX10_comes_74 : decode cX10_comes 74 = .ok (.bipush 14, 2) := by decide +kernel
theorem dX10_comes_76 : decode cX10_comes 76 = .ok (.iaload, 1) := by decide +kernel
theorem dX10_comes_77 : decode cX10_comes 77 = .ok (.iconst 1, 1) := by decide +kernel
theorem dX10_comes_78 : decode cX10_comes 78 = .ok (.isub, 1) := by decide +kernel
theorem dX10_comes_79 : decode cX10_comes 79 = .ok (.ireturn, 1) := by decide +kernel
set_option maxRecDepth 20000 in
theorem ggX10_come_X10_keeps : GoodIn wsX10_come wsX10_keeps := goodIn_r _ [5, 6, 7, 27, 28, 29, 30, 31, 32, 33, 34, 35, 36, 37, 38, 39, 40, 41] (by decide +kernel) (by decide +kernel)
set_option maxRecDepth 20000 in
theorem gX10_come_X10_keeps : GoodIn wsX10_come (wsV RX10 72 RX10 yX10_keeps wsX10_keeps) := goodIn_app (goodIn_of _ (by decide +kernel)) ggX10_come_X10_keeps
set_option maxRecDepth 20000 in
theorem ggX10_come_X10_comes : GoodIn wsX10_come wsX10_comes := goodIn_r _ [11, 12, 7, 13, 14, 15, 4, 16, 27, 28, 29, 30, 31, 32, 33, 34, 35, 36, 37, 38, 39, 40, 41] (by decide +kernel) (by decide +kernel)
set_option maxRecDepth 20000 in
theorem gX10_come_X10_comes : GoodIn wsX10_come (wsV RX10 90 RX10 yX10_comes wsX10_comes) := goodIn_app (goodIn_of _ (by decide +kernel)) ggX10_come_X10_comes
set_option maxRecDepth 20000 in
theorem ggX10_come_X10_acted : GoodIn wsX10_come wsX10_acted := goodIn_r _ [20, 12, 6, 21, 22, 23, 4, 24, 25, 26, 27, 28, 29, 30, 31, 32, 33, 34, 35, 36, 37, 38, 39, 40, 41] (by decide +kernel) (by decide +kernel)
set_option maxRecDepth 20000 in
theorem gX10_come_X10_acted : GoodIn wsX10_come (wsV RX10 79 RX10 yX10_acted wsX10_acted) := goodIn_app (goodIn_of _ (by decide +kernel)) ggX10_come_X10_acted
theorem dX10_come_0 : decode cX10_come 0 = .ok (.aload_n 0, 1) := by decide +kernel
theorem dX10_come_1 : decode cX10_come 1 = .ok (.invokevirtual 72, 3) := by decide +kernel
theorem dX10_come_4 : decode cX10_come 4 = .ok (.aload_n 0, 1) := by decide +kernel
theorem dX10_come_5 : decode cX10_come 5 = .ok (.aload_n 0, 1) := by decide +kernel
theorem dX10_come_6 : decode cX10_come 6 = .ok (.iload_n 1, 1) := by decide +kernel
theorem dX10_come_7 : decode cX10_come 7 = .ok (.invokevirtual 90, 3) := by decide +kernel
theorem dX10_come_10 : decode cX10_come 10 = .ok (.invokevirtual 79, 3) := by decide +kernel
theorem dX10_come_13 : decode cX10_come 13 = .ok (.ireturn, 1) := by decide +kernel
set_option maxRecDepth 20000 in
theorem ggX10_leave_X10_isCustomer : GoodIn wsX10_leave wsX10_isCustomer := goodIn_r _ [7, 2, 8, 9, 6, 10, 30, 31, 32, 33, 34, 35, 36, 37, 38, 39, 40, 41, 42, 43, 44] (by decide +kernel) (by decide +kernel)
set_option maxRecDepth 20000 in
theorem gX10_leave_X10_isCustomer : GoodIn wsX10_leave (wsV RX10 93 RX10 yX10_isCustomer wsX10_isCustomer) := goodIn_app (goodIn_of _ (by decide +kernel)) ggX10_leave_X10_isCustomer
set_option maxRecDepth 20000 in
theorem ggX10_leave_X10_keeps : GoodIn wsX10_leave wsX10_keeps := goodIn_r _ [14, 15, 2, 30, 31, 32, 33, 34, 35, 36, 37, 38, 39, 40, 41, 42, 43, 44] (by decide +kernel) (by decide +kernel)
set_option maxRecDepth 20000 in
theorem gX10_leave_X10_keeps : GoodIn wsX10_leave (wsV RX10 72 RX10 yX10_keeps wsX10_keeps) := goodIn_app (goodIn_of _ (by decide +kernel)) ggX10_leave_X10_keeps
set_option maxRecDepth 20000 in
theorem ggX10_leave_X10_of : GoodIn wsX10_leave wsX10_of := goodIn_r _ [19, 2, 30, 31, 32, 33, 34, 35, 36, 37, 38, 39, 40, 41, 42, 43, 44] (by decide +kernel) (by decide +kernel)
set_option maxRecDepth 20000 in
theorem gX10_leave_X10_of : GoodIn wsX10_leave (wsV RX10 96 RX10 yX10_of wsX10_of) := goodIn_app (goodIn_of _ (by decide +kernel)) ggX10_leave_X10_of
set_option maxRecDepth 20000 in
theorem ggX10_leave_X10_acted : GoodIn wsX10_leave wsX10_acted := goodIn_r _ [23, 1, 15, 24, 25, 26, 6, 27, 28, 29, 30, 31, 32, 33, 34, 35, 36, 37, 38, 39, 40, 41, 42, 43, 44] (by decide +kernel) (by decide +kernel)
set_option maxRecDepth 20000 in
theorem gX10_leave_X10_acted : GoodIn wsX10_leave (wsV RX10 79 RX10 yX10_acted wsX10_acted) := goodIn_app (goodIn_of _ (by decide +kernel)) ggX10_leave_X10_acted
theorem dX10_leave_0 : decode cX10_leave 0 = .ok (.aload_n 0, 1) := by decide +kernel
theorem dX10_leave_1 : decode cX10_leave 1 = .ok (.iload_n 1, 1) := by decide +kernel
theorem dX10_leave_2 : decode cX10_leave 2 = .ok (.invokevirtual 93, 3) := by decide +kernel
theorem dX10_leave_5 : decode cX10_leave 5 = .ok (.ifCond .ne 6, 3) := by decide +kernel
theorem dX10_leave_8 : decode cX10_leave 8 = .ok (.ldc 40, 2) := by decide +kernel
theorem dX10_leave_10 : decode cX10_leave 10 = .ok (.ireturn, 1) := by decide +kernel
theorem dX10_leave_11 : decode cX10_leave 11 = .ok (.aload_n 0, 1) := by decide +kernel
theorem dX10_leave_12 : decode cX10_leave 12 = .ok (.invokevirtual 72, 3) := by decide +kernel
theorem dX10_leave_15 : decode cX10_leave 15 = .ok (.aload_n 0, 1) := by decide +kernel
theorem dX10_leave_16 : decode cX10_leave 16 = .ok (.iload_n 1, 1) := by decide +kernel
theorem dX10_leave_17 : decode cX10_leave 17 = .ok (.iconst 0, 1) := by decide +kernel
theorem dX10_leave_18 : decode cX10_leave 18 = .ok (.invokevirtual 96, 3) := by decide +kernel
theorem dX10_leave_21 : decode cX10_leave 21 = .ok (.istore_n 2, 1) := by decide +kernel
theorem dX10_leave_22 : decode cX10_leave 22 = .ok (.aload_n 0, 1) := by decide +kernel
theorem dX10_leave_23 : decode cX10_leave 23 = .ok (.getfield 7, 3) := by decide +kernel
theorem dX10_leave_26 : decode cX10_leave 26 = .ok (.bipush 14, 2) := by decide +kernel
theorem dX10_leave_28 : decode cX10_leave 28 = .ok (.dup2, 1) := by decide +kernel
theorem dX10_leave_29 : decode cX10_leave 29 = .ok (.iaload, 1) := by decide +kernel
theorem dX10_leave_30 : decode cX10_leave 30 = .ok (.iconst 1, 1) := by decide +kernel
theorem dX10_leave_31 : decode cX10_leave 31 = .ok (.isub, 1) := by decide +kernel
theorem dX10_leave_32 : decode cX10_leave 32 = .ok (.iastore, 1) := by decide +kernel
theorem dX10_leave_33 : decode cX10_leave 33 = .ok (.bipush 6, 2) := by decide +kernel
theorem dX10_leave_35 : decode cX10_leave 35 = .ok (.iload_n 1, 1) := by decide +kernel
theorem dX10_leave_36 : decode cX10_leave 36 = .ok (.imul, 1) := by decide +kernel
theorem dX10_leave_37 : decode cX10_leave 37 = .ok (.istore_n 3, 1) := by decide +kernel
theorem dX10_leave_38 : decode cX10_leave 38 = .ok (.iload_n 3, 1) := by decide +kernel
theorem dX10_leave_39 : decode cX10_leave 39 = .ok (.bipush 6, 2) := by decide +kernel
theorem dX10_leave_41 : decode cX10_leave 41 = .ok (.aload_n 0, 1) := by decide +kernel
theorem dX10_leave_42 : decode cX10_leave 42 = .ok (.getfield 7, 3) := by decide +kernel
theorem dX10_leave_45 : decode cX10_leave 45 = .ok (.bipush 14, 2) := by decide +kernel
theorem dX10_leave_47 : decode cX10_leave 47 = .ok (.iaload, 1) := by decide +kernel
theorem dX10_leave_48 : decode cX10_leave 48 = .ok (.imul, 1) := by decide +kernel
theorem dX10_leave_49 : decode cX10_leave 49 = .ok (.if_icmp .ge 30, 3) := by decide +kernel
theorem dX10_leave_52 : decode cX10_leave 52 = .ok (.aload_n 0, 1) := by decide +kernel
theorem dX10_leave_53 : decode cX10_leave 53 = .ok (.getfield 7, 3) := by decide +kernel
theorem dX10_leave_56 : decode cX10_leave 56 = .ok (.bipush 16, 2) := by decide +kernel
theorem dX10_leave_58 : decode cX10_leave 58 = .ok (.iload_n 3, 1) := by decide +kernel
theorem dX10_leave_59 : decode cX10_leave 59 = .ok (.iadd, 1) := by decide +kernel
theorem dX10_leave_60 : decode cX10_leave 60 = .ok (.aload_n 0, 1) := by decide +kernel
theorem dX10_leave_61 : decode cX10_leave 61 = .ok (.getfield 7, 3) := by decide +kernel
theorem dX10_leave_64 : decode cX10_leave 64 = .ok (.bipush 16, 2) := by decide +kernel
theorem dX10_leave_66 : decode cX10_leave 66 = .ok (.iload_n 3, 1) := by decide +kernel
theorem dX10_leave_67 : decode cX10_leave 67 = .ok (.iadd, 1) := by decide +kernel
theorem dX10_leave_68 : decode cX10_leave 68 = .ok (.bipush 6, 2) := by decide +kernel
theorem dX10_leave_70 : decode cX10_leave 70 = .ok (.iadd, 1) := by decide +kernel
theorem dX10_leave_71 : decode cX10_leave 71 = .ok (.iaload, 1) := by decide +kernel
theorem dX10_leave_72 : decode cX10_leave 72 = .ok (.iastore, 1) := by decide +kernel
theorem dX10_leave_73 : decode cX10_leave 73 = .ok (.iinc 3 1, 3) := by decide +kernel
theorem dX10_leave_76 : decode cX10_leave 76 = .ok (.goto (-38), 3) := by decide +kernel
theorem dX10_leave_79 : decode cX10_leave 79 = .ok (.aload_n 0, 1) := by decide +kernel
theorem dX10_leave_80 : decode cX10_leave 80 = .ok (.iload_n 2, 1) := by decide +kernel
theorem dX10_leave_81 : decode cX10_leave 81 = .ok (.invokevirtual 79, 3) := by decide +kernel
theorem dX10_leave_84 : decode cX10_leave 84 = .ok (.ireturn, 1) := by decide +kernel
set_option maxRecDepth 20000 in
theorem ggX10_weighs_X10_isCustomer : GoodIn wsX10_weighs wsX10_isCustomer := goodIn_r _ [7, 1, 8, 9, 6, 10, 41, 42, 43, 44, 45, 46, 47, 48, 49, 50, 51, 52, 53, 54, 55] (by decide +kernel) (by decide +kernel)
set_option maxRecDepth 20000 in
theorem gX10_weighs_X10_isCustomer : GoodIn wsX10_weighs (wsV RX10 93 RX10 yX10_isCustomer wsX10_isCustomer) := goodIn_app (goodIn_of _ (by decide +kernel)) ggX10_weighs_X10_isCustomer
set_option maxRecDepth 20000 in
theorem ggX10_weighs_X10_isKind : GoodIn wsX10_weighs wsX10_isKind := goodIn_r _ [13, 8, 9, 6, 10] (by decide +kernel) (by decide +kernel)
set_option maxRecDepth 20000 in
theorem gX10_weighs_X10_isKind : GoodIn wsX10_weighs (va_wsS RX10 68 yX10_isKind wsX10_isKind) := goodIn_app (goodIn_of _ (by decide +kernel)) ggX10_weighs_X10_isKind
set_option maxRecDepth 20000 in
theorem ggX10_weighs_X10_in : GoodIn wsX10_weighs wsX10_in := goodIn_r _ [10] (by decide +kernel) (by decide +kernel)
set_option maxRecDepth 20000 in
theorem gX10_weighs_X10_in : GoodIn wsX10_weighs (va_wsS RX10 32 yX10_in wsX10_in) := goodIn_app (goodIn_of _ (by decide +kernel)) ggX10_weighs_X10_in
set_option maxRecDepth 20000 in
theorem ggX10_weighs_X10_readsBy : GoodIn wsX10_weighs wsX10_readsBy := goodIn_r _ [17, 18, 19, 6, 20] (by decide +kernel) (by decide +kernel)
set_option maxRecDepth 20000 in
theorem gX10_weighs_X10_readsBy : GoodIn wsX10_weighs (wsV RX10 99 RX10 yX10_readsBy wsX10_readsBy) := goodIn_app (goodIn_of _ (by decide +kernel)) ggX10_weighs_X10_readsBy
set_option maxRecDepth 20000 in
theorem ggX10_weighs_X10_guesses : GoodIn wsX10_weighs wsX10_guesses := goodIn_r _ [24, 25, 26, 27, 1, 28, 29, 30, 6, 31, 32, 33, 34, 35, 36, 18, 19, 20, 37, 38, 39, 40, 41, 42, 43, 44, 45, 46, 47, 48, 49, 50, 51, 52, 53, 54, 55] (by decide +kernel) (by decide +kernel)
set_option maxRecDepth 20000 in
theorem gX10_weighs_X10_guesses : GoodIn wsX10_weighs (wsV RX10 102 RX10 yX10_guesses wsX10_guesses) := goodIn_app (goodIn_of _ (by decide +kernel)) ggX10_weighs_X10_guesses
theorem dX10_weighs_0 : decode cX10_weighs 0 = .ok (.aload_n 0, 1) := by decide +kernel
theorem dX10_weighs_1 : decode cX10_weighs 1 = .ok (.iload_n 1, 1) := by decide +kernel
theorem dX10_weighs_2 : decode cX10_weighs 2 = .ok (.invokevirtual 93, 3) := by decide +kernel
theorem dX10_weighs_5 : decode cX10_weighs 5 = .ok (.ifCond .eq 50, 3) := by decide +kernel
theorem dX10_weighs_8 : decode cX10_weighs 8 = .ok (.iload_n 2, 1) := by decide +kernel
theorem dX10_weighs_9 : decode cX10_weighs 9 = .ok (.invokestatic 68, 3) := by decide +kernel
theorem dX10_weighs_12 : decode cX10_weighs 12 = .ok (.ifCond .eq 43, 3) := by decide +kernel
theorem dX10_weighs_15 : decode cX10_weighs 15 = .ok (.iload_n 3, 1) := by decide +kernel
theorem dX10_weighs_16 : decode cX10_weighs 16 = .ok (.iconst 1, 1) := by decide +kernel
theorem dX10_weighs_17 : decode cX10_weighs 17 = .ok (.sipush 500, 3) := by decide +kernel
theorem dX10_weighs_20 : decode cX10_weighs 20 = .ok (.invokestatic 32, 3) := by decide +kernel
theorem dX10_weighs_23 : decode cX10_weighs 23 = .ok (.ifCond .eq 32, 3) := by decide +kernel
theorem dX10_weighs_26 : decode cX10_weighs 26 = .ok (.iload 4, 2) := by decide +kernel
theorem dX10_weighs_28 : decode cX10_weighs 28 = .ok (.iload_n 3, 1) := by decide +kernel
theorem dX10_weighs_29 : decode cX10_weighs 29 = .ok (.ineg, 1) := by decide +kernel
theorem dX10_weighs_30 : decode cX10_weighs 30 = .ok (.aload_n 0, 1) := by decide +kernel
theorem dX10_weighs_31 : decode cX10_weighs 31 = .ok (.getfield 7, 3) := by decide +kernel
theorem dX10_weighs_34 : decode cX10_weighs 34 = .ok (.iconst 4, 1) := by decide +kernel
theorem dX10_weighs_35 : decode cX10_weighs 35 = .ok (.iload_n 2, 1) := by decide +kernel
theorem dX10_weighs_36 : decode cX10_weighs 36 = .ok (.iadd, 1) := by decide +kernel
theorem dX10_weighs_37 : decode cX10_weighs 37 = .ok (.iaload, 1) := by decide +kernel
theorem dX10_weighs_38 : decode cX10_weighs 38 = .ok (.imul, 1) := by decide +kernel
theorem dX10_weighs_39 : decode cX10_weighs 39 = .ok (.iload_n 3, 1) := by decide +kernel
theorem dX10_weighs_40 : decode cX10_weighs 40 = .ok (.aload_n 0, 1) := by decide +kernel
theorem dX10_weighs_41 : decode cX10_weighs 41 = .ok (.getfield 7, 3) := by decide +kernel
theorem dX10_weighs_44 : decode cX10_weighs 44 = .ok (.iconst 4, 1) := by decide +kernel
theorem dX10_weighs_45 : decode cX10_weighs 45 = .ok (.iload_n 2, 1) := by decide +kernel
theorem dX10_weighs_46 : decode cX10_weighs 46 = .ok (.iadd, 1) := by decide +kernel
theorem dX10_weighs_47 : decode cX10_weighs 47 = .ok (.iaload, 1) := by decide +kernel
theorem dX10_weighs_48 : decode cX10_weighs 48 = .ok (.imul, 1) := by decide +kernel
theorem dX10_weighs_49 : decode cX10_weighs 49 = .ok (.invokestatic 32, 3) := by decide +kernel
theorem dX10_weighs_52 : decode cX10_weighs 52 = .ok (.ifCond .ne 6, 3) := by decide +kernel
theorem dX10_weighs_55 : decode cX10_weighs 55 = .ok (.ldc 40, 2) := by decide +kernel
theorem dX10_weighs_57 : decode cX10_weighs 57 = .ok (.ireturn, 1) := by decide +kernel
theorem dX10_weighs_58 : decode cX10_weighs 58 = .ok (.aload_n 0, 1) := by decide +kernel
theorem dX10_weighs_59 : decode cX10_weighs 59 = .ok (.iload_n 3, 1) := by decide +kernel
theorem dX10_weighs_60 : decode cX10_weighs 60 = .ok (.aload_n 0, 1) := by decide +kernel
theorem dX10_weighs_61 : decode cX10_weighs 61 = .ok (.getfield 7, 3) := by decide +kernel
theorem dX10_weighs_64 : decode cX10_weighs 64 = .ok (.iload_n 2, 1) := by decide +kernel
theorem dX10_weighs_65 : decode cX10_weighs 65 = .ok (.iaload, 1) := by decide +kernel
theorem dX10_weighs_66 : decode cX10_weighs 66 = .ok (.imul, 1) := by decide +kernel
theorem dX10_weighs_67 : decode cX10_weighs 67 = .ok (.iload 4, 2) := by decide +kernel
theorem dX10_weighs_69 : decode cX10_weighs 69 = .ok (.iadd, 1) := by decide +kernel
theorem dX10_weighs_70 : decode cX10_weighs 70 = .ok (.aload_n 0, 1) := by decide +kernel
theorem dX10_weighs_71 : decode cX10_weighs 71 = .ok (.getfield 7, 3) := by decide +kernel
theorem dX10_weighs_74 : decode cX10_weighs 74 = .ok (.bipush 10, 2) := by decide +kernel
theorem dX10_weighs_76 : decode cX10_weighs 76 = .ok (.iaload, 1) := by decide +kernel
theorem dX10_weighs_77 : decode cX10_weighs 77 = .ok (.iadd, 1) := by decide +kernel
theorem dX10_weighs_78 : decode cX10_weighs 78 = .ok (.aload_n 0, 1) := by decide +kernel
theorem dX10_weighs_79 : decode cX10_weighs 79 = .ok (.getfield 7, 3) := by decide +kernel
theorem dX10_weighs_82 : decode cX10_weighs 82 = .ok (.bipush 8, 2) := by decide +kernel
theorem dX10_weighs_84 : decode cX10_weighs 84 = .ok (.iaload, 1) := by decide +kernel
theorem dX10_weighs_85 : decode cX10_weighs 85 = .ok (.invokevirtual 99, 3) := by decide +kernel
theorem dX10_weighs_88 : decode cX10_weighs 88 = .ok (.istore 5, 2) := by decide +kernel
theorem dX10_weighs_90 : decode cX10_weighs 90 = .ok (.aload_n 0, 1) := by decide +kernel
theorem dX10_weighs_91 : decode cX10_weighs 91 = .ok (.iload 5, 2) := by decide +kernel
theorem dX10_weighs_93 : decode cX10_weighs 93 = .ok (.iload_n 2, 1) := by decide +kernel
theorem dX10_weighs_94 : decode cX10_weighs 94 = .ok (.aload_n 0, 1) := by decide +kernel
theorem dX10_weighs_95 : decode cX10_weighs 95 = .ok (.getfield 7, 3) := by decide +kernel
theorem dX10_weighs_98 : decode cX10_weighs 98 = .ok (.bipush 11, 2) := by decide +kernel
theorem dX10_weighs_100 : decode cX10_weighs 100 = .ok (.iaload, 1) := by decide +kernel
theorem dX10_weighs_101 : decode cX10_weighs 101 = .ok (.invokevirtual 102, 3) := by decide +kernel
theorem dX10_weighs_104 : decode cX10_weighs 104 = .ok (.istore 6, 2) := by decide +kernel
theorem dX10_weighs_106 : decode cX10_weighs 106 = .ok (.bipush 16, 2) := by decide +kernel
theorem dX10_weighs_108 : decode cX10_weighs 108 = .ok (.bipush 6, 2) := by decide +kernel
theorem dX10_weighs_110 : decode cX10_weighs 110 = .ok (.iload_n 1, 1) := by decide +kernel
theorem dX10_weighs_111 : decode cX10_weighs 111 = .ok (.imul, 1) := by decide +kernel
theorem dX10_weighs_112 : decode cX10_weighs 112 = .ok (.iadd, 1) := by decide +kernel
theorem dX10_weighs_113 : decode cX10_weighs 113 = .ok (.istore 7, 2) := by decide +kernel
theorem dX10_weighs_115 : decode cX10_weighs 115 = .ok (.aload_n 0, 1) := by decide +kernel
theorem dX10_weighs_116 : decode cX10_weighs 116 = .ok (.getfield 7, 3) := by decide +kernel
theorem dX10_weighs_119 : decode cX10_weighs 119 = .ok (.iload 7, 2) := by decide +kernel
theorem dX10_weighs_121 : decode cX10_weighs 121 = .ok (.dup2, 1) := by decide +kernel
theorem dX10_weighs_122 : decode cX10_weighs 122 = .ok (.iaload, 1) := by decide +kernel
theorem dX10_weighs_123 : decode cX10_weighs 123 = .ok (.iload 6, 2) := by decide +kernel
theorem dX10_weighs_125 : decode cX10_weighs 125 = .ok (.iadd, 1) := by decide +kernel
theorem dX10_weighs_126 : decode cX10_weighs 126 = .ok (.iastore, 1) := by decide +kernel
theorem dX10_weighs_127 : decode cX10_weighs 127 = .ok (.aload_n 0, 1) := by decide +kernel
theorem dX10_weighs_128 : decode cX10_weighs 128 = .ok (.getfield 7, 3) := by decide +kernel
theorem dX10_weighs_131 : decode cX10_weighs 131 = .ok (.iload 7, 2) := by decide +kernel
theorem dX10_weighs_133 : decode cX10_weighs 133 = .ok (.iconst 1, 1) := by decide +kernel
theorem dX10_weighs_134 : decode cX10_weighs 134 = .ok (.iadd, 1) := by decide +kernel
theorem dX10_weighs_135 : decode cX10_weighs 135 = .ok (.iconst 1, 1) := by decide +kernel
theorem dX10_weighs_136 : decode cX10_weighs 136 = .ok (.iastore, 1) := by decide +kernel
theorem dX10_weighs_137 : decode cX10_weighs 137 = .ok (.aload_n 0, 1) := by decide +kernel
theorem dX10_weighs_138 : decode cX10_weighs 138 = .ok (.getfield 7, 3) := by decide +kernel
theorem dX10_weighs_141 : decode cX10_weighs 141 = .ok (.iload 7, 2) := by decide +kernel
theorem dX10_weighs_143 : decode cX10_weighs 143 = .ok (.iconst 2, 1) := by decide +kernel
theorem dX10_weighs_144 : decode cX10_weighs 144 = .ok (.iadd, 1) := by decide +kernel
theorem dX10_weighs_145 : decode cX10_weighs 145 = .ok (.iload_n 2, 1) := by decide +kernel
theorem dX10_weighs_146 : decode cX10_weighs 146 = .ok (.iastore, 1) := by decide +kernel
theorem dX10_weighs_147 : decode cX10_weighs 147 = .ok (.aload_n 0, 1) := by decide +kernel
theorem dX10_weighs_148 : decode cX10_weighs 148 = .ok (.getfield 7, 3) := by decide +kernel
theorem dX10_weighs_151 : decode cX10_weighs 151 = .ok (.iload 7, 2) := by decide +kernel
theorem dX10_weighs_153 : decode cX10_weighs 153 = .ok (.iconst 3, 1) := by decide +kernel
theorem dX10_weighs_154 : decode cX10_weighs 154 = .ok (.iadd, 1) := by decide +kernel
theorem dX10_weighs_155 : decode cX10_weighs 155 = .ok (.iload_n 3, 1) := by decide +kernel
theorem dX10_weighs_156 : decode cX10_weighs 156 = .ok (.iastore, 1) := by decide +kernel
theorem dX10_weighs_157 : decode cX10_weighs 157 = .ok (.aload_n 0, 1) := by decide +kernel
theorem dX10_weighs_158 : decode cX10_weighs 158 = .ok (.getfield 7, 3) := by decide +kernel
theorem dX10_weighs_161 : decode cX10_weighs 161 = .ok (.iload 7, 2) := by decide +kernel
theorem dX10_weighs_163 : decode cX10_weighs 163 = .ok (.iconst 4, 1) := by decide +kernel
theorem dX10_weighs_164 : decode cX10_weighs 164 = .ok (.iadd, 1) := by decide +kernel
theorem dX10_weighs_165 : decode cX10_weighs 165 = .ok (.iload 5, 2) := by decide +kernel
theorem dX10_weighs_167 : decode cX10_weighs 167 = .ok (.iastore, 1) := by decide +kernel
theorem dX10_weighs_168 : decode cX10_weighs 168 = .ok (.aload_n 0, 1) := by decide +kernel
theorem dX10_weighs_169 : decode cX10_weighs 169 = .ok (.getfield 7, 3) := by decide +kernel
theorem dX10_weighs_172 : decode cX10_weighs 172 = .ok (.iload 7, 2) := by decide +kernel
theorem dX10_weighs_174 : decode cX10_weighs 174 = .ok (.iconst 5, 1) := by decide +kernel
theorem dX10_weighs_175 : decode cX10_weighs 175 = .ok (.iadd, 1) := by decide +kernel
theorem dX10_weighs_176 : decode cX10_weighs 176 = .ok (.iload 6, 2) := by decide +kernel
theorem dX10_weighs_178 : decode cX10_weighs 178 = .ok (.iastore, 1) := by decide +kernel
theorem dX10_weighs_179 : decode cX10_weighs 179 = .ok (.aload_n 0, 1) := by decide +kernel
theorem dX10_weighs_180 : decode cX10_weighs 180 = .ok (.getfield 7, 3) := by decide +kernel
theorem dX10_weighs_183 : decode cX10_weighs 183 = .ok (.bipush 13, 2) := by decide +kernel
theorem dX10_weighs_185 : decode cX10_weighs 185 = .ok (.dup2, 1) := by decide +kernel
theorem dX10_weighs_186 : decode cX10_weighs 186 = .ok (.iaload, 1) := by decide +kernel
theorem dX10_weighs_187 : decode cX10_weighs 187 = .ok (.iload 6, 2) := by decide +kernel
theorem dX10_weighs_189 : decode cX10_weighs 189 = .ok (.iload_n 3, 1) := by decide +kernel
theorem dX10_weighs_190 : decode cX10_weighs 190 = .ok (.isub, 1) := by decide +kernel
theorem dX10_weighs_191 : decode cX10_weighs 191 = .ok (.iadd, 1) := by decide +kernel
theorem dX10_weighs_192 : decode cX10_weighs 192 = .ok (.iastore, 1) := by decide +kernel
theorem dX10_weighs_193 : decode cX10_weighs 193 = .ok (.iload 6, 2) := by decide +kernel
theorem dX10_weighs_195 : decode cX10_weighs 195 = .ok (.ireturn, 1) := by decide +kernel
set_option maxRecDepth 20000 in
theorem ggX10_weigh_X10_keeps : GoodIn wsX10_weigh wsX10_keeps := goodIn_r _ [5, 6, 7, 60, 61, 62, 63, 64, 65, 66, 67, 68, 69, 70, 71, 72, 73, 74] (by decide +kernel) (by decide +kernel)
set_option maxRecDepth 20000 in
theorem gX10_weigh_X10_keeps : GoodIn wsX10_weigh (wsV RX10 72 RX10 yX10_keeps wsX10_keeps) := goodIn_app (goodIn_of _ (by decide +kernel)) ggX10_weigh_X10_keeps
set_option maxRecDepth 20000 in
theorem ggX10_weigh_X10_weighs : GoodIn wsX10_weigh wsX10_weighs := goodIn_r _ [11, 7, 12, 13, 14, 15, 4, 16, 17, 18, 19, 20, 21, 22, 23, 24, 25, 26, 27, 28, 29, 30, 31, 32, 33, 34, 35, 36, 37, 38, 39, 40, 41, 42, 43, 44, 45, 46, 47, 48, 49, 60, 61, 62, 63, 64, 65, 66, 67, 68, 69, 70, 71, 72, 73, 74] (by decide +kernel) (by decide +kernel)
set_option maxRecDepth 20000 in
theorem gX10_weigh_X10_weighs : GoodIn wsX10_weigh (wsV RX10 105 RX10 yX10_weighs wsX10_weighs) := goodIn_app (goodIn_of _ (by decide +kernel)) ggX10_weigh_X10_weighs
set_option maxRecDepth 20000 in
theorem ggX10_weigh_X10_acted : GoodIn wsX10_weigh wsX10_acted := goodIn_r _ [53, 12, 6, 54, 55, 56, 4, 57, 58, 59, 60, 61, 62, 63, 64, 65, 66, 67, 68, 69, 70, 71, 72, 73, 74] (by decide +kernel) (by decide +kernel)
set_option maxRecDepth 20000 in
theorem gX10_weigh_X10_acted : GoodIn wsX10_weigh (wsV RX10 79 RX10 yX10_acted wsX10_acted) := goodIn_app (goodIn_of _ (by decide +kernel)) ggX10_weigh_X10_acted
theorem dX10_weigh_0 : decode cX10_weigh 0 = .ok (.aload_n 0, 1) := by decide +kernel
theorem dX10_weigh_1 : decode cX10_weigh 1 = .ok (.invokevirtual 72, 3) := by decide +kernel
theorem dX10_weigh_4 : decode cX10_weigh 4 = .ok (.aload_n 0, 1) := by decide +kernel
theorem dX10_weigh_5 : decode cX10_weigh 5 = .ok (.aload_n 0, 1) := by decide +kernel
theorem dX10_weigh_6 : decode cX10_weigh 6 = .ok (.iload_n 1, 1) := by decide +kernel
theorem dX10_weigh_7 : decode cX10_weigh 7 = .ok (.iload_n 2, 1) := by decide +kernel
theorem dX10_weigh_8 : decode cX10_weigh 8 = .ok (.iload_n 3, 1) := by decide +kernel
theorem dX10_weigh_9 : decode cX10_weigh 9 = .ok (.iload 4, 2) := by decide +kernel
theorem dX10_weigh_11 : decode cX10_weigh 11 = .ok (.invokevirtual 105, 3) := by decide +kernel
theorem dX10_weigh_14 : decode cX10_weigh 14 = .ok (.invokevirtual 79, 3) := by decide +kernel
theorem dX10_weigh_17 : decode cX10_weigh 17 = .ok (.ireturn, 1) := by decide +kernel
theorem dX10_far_0 : decode cX10_far 0 = .ok (.iload_n 0, 1) := by decide +kernel
theorem dX10_far_1 : decode cX10_far 1 = .ok (.iload_n 1, 1) := by decide +kernel
theorem dX10_far_2 : decode cX10_far 2 = .ok (.if_icmp .ge 9, 3) := by decide +kernel
theorem dX10_far_5 : decode cX10_far 5 = .ok (.iload_n 1, 1) := by decide +kernel
theorem dX10_far_6 : decode cX10_far 6 = .ok (.iload_n 0, 1) := by decide +kernel
theorem dX10_far_7 : decode cX10_far 7 = .ok (.isub, 1) := by decide +kernel
theorem dX10_far_8 : decode cX10_far 8 = .ok (.goto 6, 3) := by decide +kernel
theorem dX10_far_11 : decode cX10_far 11 = .ok (.iload_n 0, 1) := by decide +kernel
theorem dX10_far_12 : decode cX10_far 12 = .ok (.iload_n 1, 1) := by decide +kernel
theorem dX10_far_13 : decode cX10_far 13 = .ok (.isub, 1) := by decide +kernel
theorem dX10_far_14 : decode cX10_far 14 = .ok (.ireturn, 1) := by decide +kernel
set_option maxRecDepth 20000 in
theorem ggX10_claims_X10_isCustomer : GoodIn wsX10_claims wsX10_isCustomer := goodIn_r _ [10, 3, 11, 12, 9, 13, 37, 38, 39, 40, 41, 42, 43, 44, 45, 46, 47, 48, 49, 50, 51] (by decide +kernel) (by decide +kernel)
set_option maxRecDepth 20000 in
theorem gX10_claims_X10_isCustomer : GoodIn wsX10_claims (wsV RX10 93 RX10 yX10_isCustomer wsX10_isCustomer) := goodIn_app (goodIn_of _ (by decide +kernel)) ggX10_claims_X10_isCustomer
set_option maxRecDepth 20000 in
theorem ggX10_claims_X10_in : GoodIn wsX10_claims wsX10_in := goodIn_r _ [13] (by decide +kernel) (by decide +kernel)
set_option maxRecDepth 20000 in
theorem gX10_claims_X10_in : GoodIn wsX10_claims (va_wsS RX10 32 yX10_in wsX10_in) := goodIn_app (goodIn_of _ (by decide +kernel)) ggX10_claims_X10_in
set_option maxRecDepth 20000 in
theorem ggX10_claims_X10_of : GoodIn wsX10_claims wsX10_of := goodIn_r _ [17, 3, 37, 38, 39, 40, 41, 42, 43, 44, 45, 46, 47, 48, 49, 50, 51] (by decide +kernel) (by decide +kernel)
set_option maxRecDepth 20000 in
theorem gX10_claims_X10_of : GoodIn wsX10_claims (wsV RX10 96 RX10 yX10_of wsX10_of) := goodIn_app (goodIn_of _ (by decide +kernel)) ggX10_claims_X10_of
set_option maxRecDepth 20000 in
theorem ggX10_claims_X10_allows : GoodIn wsX10_claims wsX10_allows := goodIn_r _ [21, 3, 4, 5, 22, 23, 24, 9, 25, 26, 27, 28, 29, 30, 31, 32, 33, 37, 38, 39, 40, 41, 42, 43, 44, 45, 46, 47, 48, 49, 50, 51] (by decide +kernel) (by decide +kernel)
set_option maxRecDepth 20000 in
theorem gX10_claims_X10_allows : GoodIn wsX10_claims (wsV RX10 63 RX10 yX10_allows wsX10_allows) := goodIn_app (goodIn_of _ (by decide +kernel)) ggX10_claims_X10_allows
set_option maxRecDepth 20000 in
theorem ggX10_claims_X10_far : GoodIn wsX10_claims wsX10_far := goodIn_r _ [36] (by decide +kernel) (by decide +kernel)
set_option maxRecDepth 20000 in
theorem gX10_claims_X10_far : GoodIn wsX10_claims (va_wsS RX10 109 yX10_far wsX10_far) := goodIn_app (goodIn_of _ (by decide +kernel)) ggX10_claims_X10_far
theorem dX10_claims_0 : decode cX10_claims 0 = .ok (.aload_n 0, 1) := by decide +kernel
theorem dX10_claims_1 : decode cX10_claims 1 = .ok (.iload_n 1, 1) := by decide +kernel
theorem dX10_claims_2 : decode cX10_claims 2 = .ok (.invokevirtual 93, 3) := by decide +kernel
theorem dX10_claims_5 : decode cX10_claims 5 = .ok (.ifCond .eq 14, 3) := by decide +kernel
theorem dX10_claims_8 : decode cX10_claims 8 = .ok (.iload_n 2, 1) := by decide +kernel
theorem dX10_claims_9 : decode cX10_claims 9 = .ok (.iconst 0, 1) := by decide +kernel
theorem dX10_claims_10 : decode cX10_claims 10 = .ok (.sipush 9999, 3) := by decide +kernel
theorem dX10_claims_13 : decode cX10_claims 13 = .ok (.invokestatic 32, 3) := by decide +kernel
theorem dX10_claims_16 : decode cX10_claims 16 = .ok (.ifCond .ne 6, 3) := by decide +kernel
theorem dX10_claims_19 : decode cX10_claims 19 = .ok (.ldc 40, 2) := by decide +kernel
theorem dX10_claims_21 : decode cX10_claims 21 = .ok (.ireturn, 1) := by decide +kernel
theorem dX10_claims_22 : decode cX10_claims 22 = .ok (.aload_n 0, 1) := by decide +kernel
theorem dX10_claims_23 : decode cX10_claims 23 = .ok (.iload_n 1, 1) := by decide +kernel
theorem dX10_claims_24 : decode cX10_claims 24 = .ok (.iconst 3, 1) := by decide +kernel
theorem dX10_claims_25 : decode cX10_claims 25 = .ok (.invokevirtual 96, 3) := by decide +kernel
theorem dX10_claims_28 : decode cX10_claims 28 = .ok (.istore_n 3, 1) := by decide +kernel
theorem dX10_claims_29 : decode cX10_claims 29 = .ok (.aload_n 0, 1) := by decide +kernel
theorem dX10_claims_30 : decode cX10_claims 30 = .ok (.iload_n 1, 1) := by decide +kernel
theorem dX10_claims_31 : decode cX10_claims 31 = .ok (.iconst 5, 1) := by decide +kernel
theorem dX10_claims_32 : decode cX10_claims 32 = .ok (.invokevirtual 96, 3) := by decide +kernel
theorem dX10_claims_35 : decode cX10_claims 35 = .ok (.istore 4, 2) := by decide +kernel
theorem dX10_claims_37 : decode cX10_claims 37 = .ok (.aload_n 0, 1) := by decide +kernel
theorem dX10_claims_38 : decode cX10_claims 38 = .ok (.iload_n 1, 1) := by decide +kernel
theorem dX10_claims_39 : decode cX10_claims 39 = .ok (.iconst 1, 1) := by decide +kernel
theorem dX10_claims_40 : decode cX10_claims 40 = .ok (.invokevirtual 96, 3) := by decide +kernel
theorem dX10_claims_43 : decode cX10_claims 43 = .ok (.ifCond .eq 9, 3) := by decide +kernel
theorem dX10_claims_46 : decode cX10_claims 46 = .ok (.iload_n 2, 1) := by decide +kernel
theorem dX10_claims_47 : decode cX10_claims 47 = .ok (.iload 4, 2) := by decide +kernel
theorem dX10_claims_49 : decode cX10_claims 49 = .ok (.if_icmp .ne 6, 3) := by decide +kernel
theorem dX10_claims_52 : decode cX10_claims 52 = .ok (.ldc 108, 2) := by decide +kernel
theorem dX10_claims_54 : decode cX10_claims 54 = .ok (.ireturn, 1) := by decide +kernel
theorem dX10_claims_55 : decode cX10_claims 55 = .ok (.bipush 16, 2) := by decide +kernel
theorem dX10_claims_57 : decode cX10_claims 57 = .ok (.bipush 6, 2) := by decide +kernel
theorem dX10_claims_59 : decode cX10_claims 59 = .ok (.iload_n 1, 1) := by decide +kernel
theorem dX10_claims_60 : decode cX10_claims 60 = .ok (.imul, 1) := by decide +kernel
theorem dX10_claims_61 : decode cX10_claims 61 = .ok (.iadd, 1) := by decide +kernel
theorem dX10_claims_62 : decode cX10_claims 62 = .ok (.istore 5, 2) := by decide +kernel
theorem dX10_claims_64 : decode cX10_claims 64 = .ok (.aload_n 0, 1) := by decide +kernel
theorem dX10_claims_65 : decode cX10_claims 65 = .ok (.getfield 7, 3) := by decide +kernel
theorem dX10_claims_68 : decode cX10_claims 68 = .ok (.iload 5, 2) := by decide +kernel
theorem dX10_claims_70 : decode cX10_claims 70 = .ok (.iconst 1, 1) := by decide +kernel
theorem dX10_claims_71 : decode cX10_claims 71 = .ok (.iadd, 1) := by decide +kernel
theorem dX10_claims_72 : decode cX10_claims 72 = .ok (.iconst 0, 1) := by decide +kernel
theorem dX10_claims_73 : decode cX10_claims 73 = .ok (.iastore, 1) := by decide +kernel
theorem dX10_claims_74 : decode cX10_claims 74 = .ok (.aload_n 0, 1) := by decide +kernel
theorem dX10_claims_75 : decode cX10_claims 75 = .ok (.aload_n 0, 1) := by decide +kernel
theorem dX10_claims_76 : decode cX10_claims 76 = .ok (.iload_n 1, 1) := by decide +kernel
theorem dX10_claims_77 : decode cX10_claims 77 = .ok (.iconst 4, 1) := by decide +kernel
theorem dX10_claims_78 : decode cX10_claims 78 = .ok (.invokevirtual 96, 3) := by decide +kernel
theorem dX10_claims_81 : decode cX10_claims 81 = .ok (.aload_n 0, 1) := by decide +kernel
theorem dX10_claims_82 : decode cX10_claims 82 = .ok (.iload_n 1, 1) := by decide +kernel
theorem dX10_claims_83 : decode cX10_claims 83 = .ok (.iconst 2, 1) := by decide +kernel
theorem dX10_claims_84 : decode cX10_claims 84 = .ok (.invokevirtual 96, 3) := by decide +kernel
theorem dX10_claims_87 : decode cX10_claims 87 = .ok (.invokevirtual 63, 3) := by decide +kernel
theorem dX10_claims_90 : decode cX10_claims 90 = .ok (.ifCond .eq 18, 3) := by decide +kernel
theorem dX10_claims_93 : decode cX10_claims 93 = .ok (.iload_n 2, 1) := by decide +kernel
theorem dX10_claims_94 : decode cX10_claims 94 = .ok (.aload_n 0, 1) := by decide +kernel
theorem dX10_claims_95 : decode cX10_claims 95 = .ok (.getfield 54, 3) := by decide +kernel
theorem dX10_claims_98 : decode cX10_claims 98 = .ok (.aload_n 0, 1) := by decide +kernel
theorem dX10_claims_99 : decode cX10_claims 99 = .ok (.getfield 60, 3) := by decide +kernel
theorem dX10_claims_102 : decode cX10_claims 102 = .ok (.invokestatic 32, 3) := by decide +kernel
theorem dX10_claims_105 : decode cX10_claims 105 = .ok (.ifCond .ne 5, 3) := by decide +kernel
theorem dX10_claims_108 : decode cX10_claims 108 = .ok (.iconst 0, 1) := by decide +kernel
theorem dX10_claims_109 : decode cX10_claims 109 = .ok (.ireturn, 1) := by decide +kernel
theorem dX10_claims_110 : decode cX10_claims 110 = .ok (.aload_n 0, 1) := by decide +kernel
theorem dX10_claims_111 : decode cX10_claims 111 = .ok (.getfield 7, 3) := by decide +kernel
theorem dX10_claims_114 : decode cX10_claims 114 = .ok (.bipush 13, 2) := by decide +kernel
theorem dX10_claims_116 : decode cX10_claims 116 = .ok (.dup2, 1) := by decide +kernel
theorem dX10_claims_117 : decode cX10_claims 117 = .ok (.iaload, 1) := by decide +kernel
theorem dX10_claims_118 : decode cX10_claims 118 = .ok (.iload_n 3, 1) := by decide +kernel
theorem dX10_claims_119 : decode cX10_claims 119 = .ok (.iload 4, 2) := by decide +kernel
theorem dX10_claims_121 : decode cX10_claims 121 = .ok (.isub, 1) := by decide +kernel
theorem dX10_claims_122 : decode cX10_claims 122 = .ok (.iadd, 1) := by decide +kernel
theorem dX10_claims_123 : decode cX10_claims 123 = .ok (.iastore, 1) := by decide +kernel
theorem dX10_claims_124 : decode cX10_claims 124 = .ok (.aload_n 0, 1) := by decide +kernel
theorem dX10_claims_125 : decode cX10_claims 125 = .ok (.getfield 7, 3) := by decide +kernel
theorem dX10_claims_128 : decode cX10_claims 128 = .ok (.iload 5, 2) := by decide +kernel
theorem dX10_claims_130 : decode cX10_claims 130 = .ok (.aload_n 0, 1) := by decide +kernel
theorem dX10_claims_131 : decode cX10_claims 131 = .ok (.getfield 7, 3) := by decide +kernel
theorem dX10_claims_134 : decode cX10_claims 134 = .ok (.iload 5, 2) := by decide +kernel
theorem dX10_claims_136 : decode cX10_claims 136 = .ok (.iaload, 1) := by decide +kernel
theorem dX10_claims_137 : decode cX10_claims 137 = .ok (.iload_n 3, 1) := by decide +kernel
theorem dX10_claims_138 : decode cX10_claims 138 = .ok (.iadd, 1) := by decide +kernel
theorem dX10_claims_139 : decode cX10_claims 139 = .ok (.iload 4, 2) := by decide +kernel
theorem dX10_claims_141 : decode cX10_claims 141 = .ok (.isub, 1) := by decide +kernel
theorem dX10_claims_142 : decode cX10_claims 142 = .ok (.ifCond .ge 7, 3) := by decide +kernel
theorem dX10_claims_145 : decode cX10_claims 145 = .ok (.iconst 0, 1) := by decide +kernel
theorem dX10_claims_146 : decode cX10_claims 146 = .ok (.goto 15, 3) := by decide +kernel
theorem dX10_claims_149 : decode cX10_claims 149 = .ok (.aload_n 0, 1) := by decide +kernel
theorem dX10_claims_150 : decode cX10_claims 150 = .ok (.getfield 7, 3) := by decide +kernel
theorem dX10_claims_153 : decode cX10_claims 153 = .ok (.iload 5, 2) := by decide +kernel
theorem dX10_claims_155 : decode cX10_claims 155 = .ok (.iaload, 1) := by decide +kernel
theorem dX10_claims_156 : decode cX10_claims 156 = .ok (.iload_n 3, 1) := by decide +kernel
theorem dX10_claims_157 : decode cX10_claims 157 = .ok (.iadd, 1) := by decide +kernel
theorem dX10_claims_158 : decode cX10_claims 158 = .ok (.iload 4, 2) := by decide +kernel
theorem dX10_claims_160 : decode cX10_claims 160 = .ok (.isub, 1) := by decide +kernel
theorem dX10_claims_161 : decode cX10_claims 161 = .ok (.iastore, 1) := by decide +kernel
theorem dX10_claims_162 : decode cX10_claims 162 = .ok (.iload_n 2, 1) := by decide +kernel
theorem dX10_claims_163 : decode cX10_claims 163 = .ok (.iload_n 3, 1) := by decide +kernel
theorem dX10_claims_164 : decode cX10_claims 164 = .ok (.invokestatic 109, 3) := by decide +kernel
theorem dX10_claims_167 : decode cX10_claims 167 = .ok (.iload 4, 2) := by decide +kernel
theorem dX10_claims_169 : decode cX10_claims 169 = .ok (.iload_n 3, 1) := by decide +kernel
theorem dX10_claims_170 : decode cX10_claims 170 = .ok (.invokestatic 109, 3) := by decide +kernel
theorem dX10_claims_173 : decode cX10_claims 173 = .ok (.if_icmp .ge 5, 3) := by decide +kernel
theorem dX10_claims_176 : decode cX10_claims 176 = .ok (.iconst 1, 1) := by decide +kernel
theorem dX10_claims_177 : decode cX10_claims 177 = .ok (.ireturn, 1) := by decide +kernel
theorem dX10_claims_178 : decode cX10_claims 178 = .ok (.aload_n 0, 1) := by decide +kernel
theorem dX10_claims_179 : decode cX10_claims 179 = .ok (.getfield 7, 3) := by decide +kernel
theorem dX10_claims_182 : decode cX10_claims 182 = .ok (.iload 5, 2) := by decide +kernel
theorem dX10_claims_184 : decode cX10_claims 184 = .ok (.aload_n 0, 1) := by decide +kernel
theorem dX10_claims_185 : decode cX10_claims 185 = .ok (.getfield 7, 3) := by decide +kernel
theorem dX10_claims_188 : decode cX10_claims 188 = .ok (.iload 5, 2) := by decide +kernel
theorem dX10_claims_190 : decode cX10_claims 190 = .ok (.iaload, 1) := by decide +kernel
theorem dX10_claims_191 : decode cX10_claims 191 = .ok (.aload_n 0, 1) := by decide +kernel
theorem dX10_claims_192 : decode cX10_claims 192 = .ok (.getfield 7, 3) := by decide +kernel
theorem dX10_claims_195 : decode cX10_claims 195 = .ok (.bipush 12, 2) := by decide +kernel
theorem dX10_claims_197 : decode cX10_claims 197 = .ok (.iaload, 1) := by decide +kernel
theorem dX10_claims_198 : decode cX10_claims 198 = .ok (.if_icmp .ge 7, 3) := by decide +kernel
theorem dX10_claims_201 : decode cX10_claims 201 = .ok (.iconst 0, 1) := by decide +kernel
theorem dX10_claims_202 : decode cX10_claims 202 = .ok (.goto 18, 3) := by decide +kernel
theorem dX10_claims_205 : decode cX10_claims 205 = .ok (.aload_n 0, 1) := by decide +kernel
theorem dX10_claims_206 : decode cX10_claims 206 = .ok (.getfield 7, 3) := by decide +kernel
theorem dX10_claims_209 : decode cX10_claims 209 = .ok (.iload 5, 2) := by decide +kernel
theorem dX10_claims_211 : decode cX10_claims 211 = .ok (.iaload, 1) := by decide +kernel
theorem dX10_claims_212 : decode cX10_claims 212 = .ok (.aload_n 0, 1) := by decide +kernel
theorem dX10_claims_213 : decode cX10_claims 213 = .ok (.getfield 7, 3) := by decide +kernel
theorem dX10_claims_216 : decode cX10_claims 216 = .ok (.bipush 12, 2) := by decide +kernel
theorem dX10_claims_218 : decode cX10_claims 218 = .ok (.iaload, 1) := by decide +kernel
theorem dX10_claims_219 : decode cX10_claims 219 = .ok (.isub, 1) := by decide +kernel
theorem dX10_claims_220 : decode cX10_claims 220 = .ok (.iastore, 1) := by decide +kernel
theorem dX10_claims_221 : decode cX10_claims 221 = .ok (.iconst 2, 1) := by decide +kernel
theorem dX10_claims_222 : decode cX10_claims 222 = .ok (.ireturn, 1) := by decide +kernel
set_option maxRecDepth 20000 in
theorem ggX10_claim_X10_keeps : GoodIn wsX10_claim wsX10_keeps := goodIn_r _ [5, 6, 7, 56, 57, 58, 59, 60, 61, 62, 63, 64, 65, 66, 67, 68, 69, 70] (by decide +kernel) (by decide +kernel)
set_option maxRecDepth 20000 in
theorem gX10_claim_X10_keeps : GoodIn wsX10_claim (wsV RX10 72 RX10 yX10_keeps wsX10_keeps) := goodIn_app (goodIn_of _ (by decide +kernel)) ggX10_claim_X10_keeps
set_option maxRecDepth 20000 in
theorem ggX10_claim_X10_claims : GoodIn wsX10_claim wsX10_claims := goodIn_r _ [11, 12, 13, 7, 14, 15, 16, 17, 18, 4, 19, 20, 21, 22, 23, 24, 25, 26, 27, 28, 29, 30, 31, 32, 33, 34, 35, 36, 37, 38, 39, 40, 41, 42, 43, 44, 45, 56, 57, 58, 59, 60, 61, 62, 63, 64, 65, 66, 67, 68, 69, 70] (by decide +kernel) (by decide +kernel)
set_option maxRecDepth 20000 in
theorem gX10_claim_X10_claims : GoodIn wsX10_claim (wsV RX10 112 RX10 yX10_claims wsX10_claims) := goodIn_app (goodIn_of _ (by decide +kernel)) ggX10_claim_X10_claims
set_option maxRecDepth 20000 in
theorem ggX10_claim_X10_acted : GoodIn wsX10_claim wsX10_acted := goodIn_r _ [49, 12, 6, 50, 51, 52, 4, 53, 54, 55, 56, 57, 58, 59, 60, 61, 62, 63, 64, 65, 66, 67, 68, 69, 70] (by decide +kernel) (by decide +kernel)
set_option maxRecDepth 20000 in
theorem gX10_claim_X10_acted : GoodIn wsX10_claim (wsV RX10 79 RX10 yX10_acted wsX10_acted) := goodIn_app (goodIn_of _ (by decide +kernel)) ggX10_claim_X10_acted
theorem dX10_claim_0 : decode cX10_claim 0 = .ok (.aload_n 0, 1) := by decide +kernel
theorem dX10_claim_1 : decode cX10_claim 1 = .ok (.invokevirtual 72, 3) := by decide +kernel
theorem dX10_claim_4 : decode cX10_claim 4 = .ok (.aload_n 0, 1) := by decide +kernel
theorem dX10_claim_5 : decode cX10_claim 5 = .ok (.aload_n 0, 1) := by decide +kernel
theorem dX10_claim_6 : decode cX10_claim 6 = .ok (.iload_n 1, 1) := by decide +kernel
theorem dX10_claim_7 : decode cX10_claim 7 = .ok (.iload_n 2, 1) := by decide +kernel
theorem dX10_claim_8 : decode cX10_claim 8 = .ok (.invokevirtual 112, 3) := by decide +kernel
theorem dX10_claim_11 : decode cX10_claim 11 = .ok (.invokevirtual 79, 3) := by decide +kernel
theorem dX10_claim_14 : decode cX10_claim 14 = .ok (.ireturn, 1) := by decide +kernel
set_option maxRecDepth 20000 in
theorem ggX10_adds_X10_in : GoodIn wsX10_adds wsX10_in := goodIn_r _ [8] (by decide +kernel) (by decide +kernel)
set_option maxRecDepth 20000 in
theorem gX10_adds_X10_in : GoodIn wsX10_adds (va_wsS RX10 32 yX10_in wsX10_in) := goodIn_app (goodIn_of _ (by decide +kernel)) ggX10_adds_X10_in
theorem dX10_adds_0 : decode cX10_adds 0 = .ok (.iload_n 1, 1) := by decide +kernel
theorem dX10_adds_1 : decode cX10_adds 1 = .ok (.iconst 1, 1) := by decide +kernel
theorem dX10_adds_2 : decode cX10_adds 2 = .ok (.sipush 5000, 3) := by decide +kernel
theorem dX10_adds_5 : decode cX10_adds 5 = .ok (.invokestatic 32, 3) := by decide +kernel
theorem dX10_adds_8 : decode cX10_adds 8 = .ok (.ifCond .eq 46, 3) := by decide +kernel
theorem dX10_adds_11 : decode cX10_adds 11 = .ok (.iload_n 2, 1) := by decide +kernel
theorem dX10_adds_12 : decode cX10_adds 12 = .ok (.iconst 1, 1) := by decide +kernel
theorem dX10_adds_13 : decode cX10_adds 13 = .ok (.sipush 20000, 3) := by decide +kernel
theorem dX10_adds_16 : decode cX10_adds 16 = .ok (.invokestatic 32, 3) := by decide +kernel
theorem dX10_adds_19 : decode cX10_adds 19 = .ok (.ifCond .eq 35, 3) := by decide +kernel
theorem dX10_adds_22 : decode cX10_adds 22 = .ok (.iload_n 3, 1) := by decide +kernel
theorem dX10_adds_23 : decode cX10_adds 23 = .ok (.iconst 0, 1) := by decide +kernel
theorem dX10_adds_24 : decode cX10_adds 24 = .ok (.bipush 99, 2) := by decide +kernel
theorem dX10_adds_26 : decode cX10_adds 26 = .ok (.invokestatic 32, 3) := by decide +kernel
theorem dX10_adds_29 : decode cX10_adds 29 = .ok (.ifCond .eq 25, 3) := by decide +kernel
theorem dX10_adds_32 : decode cX10_adds 32 = .ok (.iload 4, 2) := by decide +kernel
theorem dX10_adds_34 : decode cX10_adds 34 = .ok (.iconst 1, 1) := by decide +kernel
theorem dX10_adds_35 : decode cX10_adds 35 = .ok (.ldc 115, 2) := by decide +kernel
theorem dX10_adds_37 : decode cX10_adds 37 = .ok (.invokestatic 32, 3) := by decide +kernel
theorem dX10_adds_40 : decode cX10_adds 40 = .ok (.ifCond .eq 14, 3) := by decide +kernel
theorem dX10_adds_43 : decode cX10_adds 43 = .ok (.iload 5, 2) := by decide +kernel
theorem dX10_adds_45 : decode cX10_adds 45 = .ok (.iconst 1, 1) := by decide +kernel
theorem dX10_adds_46 : decode cX10_adds 46 = .ok (.ldc 115, 2) := by decide +kernel
theorem dX10_adds_48 : decode cX10_adds 48 = .ok (.invokestatic 32, 3) := by decide +kernel
theorem dX10_adds_51 : decode cX10_adds 51 = .ok (.ifCond .ne 6, 3) := by decide +kernel
theorem dX10_adds_54 : decode cX10_adds 54 = .ok (.ldc 40, 2) := by decide +kernel
theorem dX10_adds_56 : decode cX10_adds 56 = .ok (.ireturn, 1) := by decide +kernel
theorem dX10_adds_57 : decode cX10_adds 57 = .ok (.aload_n 0, 1) := by decide +kernel
theorem dX10_adds_58 : decode cX10_adds 58 = .ok (.getfield 7, 3) := by decide +kernel
theorem dX10_adds_61 : decode cX10_adds 61 = .ok (.bipush 15, 2) := by decide +kernel
theorem dX10_adds_63 : decode cX10_adds 63 = .ok (.iaload, 1) := by decide +kernel
theorem dX10_adds_64 : decode cX10_adds 64 = .ok (.bipush 6, 2) := by decide +kernel
theorem dX10_adds_66 : decode cX10_adds 66 = .ok (.if_icmp .ne 6, 3) := by decide +kernel
theorem dX10_adds_69 : decode cX10_adds 69 = .ok (.ldc 89, 2) := by decide +kernel
theorem dX10_adds_71 : decode cX10_adds 71 = .ok (.ireturn, 1) := by decide +kernel
theorem dX10_adds_72 : decode cX10_adds 72 = .ok (.bipush 52, 2) := by decide +kernel
theorem dX10_adds_74 : decode cX10_adds 74 = .ok (.bipush 7, 2) := by decide +kernel
theorem dX10_adds_76 : decode cX10_adds 76 = .ok (.aload_n 0, 1) := by decide +kernel
theorem dX10_adds_77 : decode cX10_adds 77 = .ok (.getfield 7, 3) := by decide +kernel
theorem dX10_adds_80 : decode cX10_adds 80 = .ok (.bipush 15, 2) := by decide +kernel
theorem dX10_adds_82 : decode cX10_adds 82 = .ok (.iaload, 1) := by decide +kernel
theorem dX10_adds_83 : decode cX10_adds 83 = .ok (.imul, 1) := by decide +kernel
theorem dX10_adds_84 : decode cX10_adds 84 = .ok (.iadd, 1) := by decide +kernel
theorem dX10_adds_85 : decode cX10_adds 85 = .ok (.istore 6, 2) := by decide +kernel
theorem dX10_adds_87 : decode cX10_adds 87 = .ok (.aload_n 0, 1) := by decide +kernel
theorem dX10_adds_88 : decode cX10_adds 88 = .ok (.getfield 7, 3) := by decide +kernel
theorem dX10_adds_91 : decode cX10_adds 91 = .ok (.iload 6, 2) := by decide +kernel
theorem dX10_adds_93 : decode cX10_adds 93 = .ok (.iload_n 1, 1) := by decide +kernel
theorem dX10_adds_94 : decode cX10_adds 94 = .ok (.iastore, 1) := by decide +kernel
theorem dX10_adds_95 : decode cX10_adds 95 = .ok (.aload_n 0, 1) := by decide +kernel
theorem dX10_adds_96 : decode cX10_adds 96 = .ok (.getfield 7, 3) := by decide +kernel
theorem dX10_adds_99 : decode cX10_adds 99 = .ok (.iload 6, 2) := by decide +kernel
theorem dX10_adds_101 : decode cX10_adds 101 = .ok (.iconst 1, 1) := by decide +kernel
theorem dX10_adds_102 : decode cX10_adds 102 = .ok (.iadd, 1) := by decide +kernel
theorem dX10_adds_103 : decode cX10_adds 103 = .ok (.iload_n 2, 1) := by decide +kernel
theorem dX10_adds_104 : decode cX10_adds 104 = .ok (.iastore, 1) := by decide +kernel
theorem dX10_adds_105 : decode cX10_adds 105 = .ok (.aload_n 0, 1) := by decide +kernel
theorem dX10_adds_106 : decode cX10_adds 106 = .ok (.getfield 7, 3) := by decide +kernel
theorem dX10_adds_109 : decode cX10_adds 109 = .ok (.iload 6, 2) := by decide +kernel
theorem dX10_adds_111 : decode cX10_adds 111 = .ok (.iconst 2, 1) := by decide +kernel
theorem dX10_adds_112 : decode cX10_adds 112 = .ok (.iadd, 1) := by decide +kernel
theorem dX10_adds_113 : decode cX10_adds 113 = .ok (.iload_n 3, 1) := by decide +kernel
theorem dX10_adds_114 : decode cX10_adds 114 = .ok (.iastore, 1) := by decide +kernel
theorem dX10_adds_115 : decode cX10_adds 115 = .ok (.aload_n 0, 1) := by decide +kernel
theorem dX10_adds_116 : decode cX10_adds 116 = .ok (.getfield 7, 3) := by decide +kernel
theorem dX10_adds_119 : decode cX10_adds 119 = .ok (.iload 6, 2) := by decide +kernel
theorem dX10_adds_121 : decode cX10_adds 121 = .ok (.iconst 3, 1) := by decide +kernel
theorem dX10_adds_122 : decode cX10_adds 122 = .ok (.iadd, 1) := by decide +kernel
theorem dX10_adds_123 : decode cX10_adds 123 = .ok (.iload 4, 2) := by decide +kernel
theorem dX10_adds_125 : decode cX10_adds 125 = .ok (.iastore, 1) := by decide +kernel
theorem dX10_adds_126 : decode cX10_adds 126 = .ok (.aload_n 0, 1) := by decide +kernel
theorem dX10_adds_127 : decode cX10_adds 127 = .ok (.getfield 7, 3) := by decide +kernel
theorem dX10_adds_130 : decode cX10_adds 130 = .ok (.iload 6, 2) := by decide +kernel
theorem dX10_adds_132 : decode cX10_adds 132 = .ok (.iconst 4, 1) := by decide +kernel
theorem dX10_adds_133 : decode cX10_adds 133 = .ok (.iadd, 1) := by decide +kernel
theorem dX10_adds_134 : decode cX10_adds 134 = .ok (.iload 5, 2) := by decide +kernel
theorem dX10_adds_136 : decode cX10_adds 136 = .ok (.iastore, 1) := by decide +kernel
theorem dX10_adds_137 : decode cX10_adds 137 = .ok (.aload_n 0, 1) := by decide +kernel
theorem dX10_adds_138 : decode cX10_adds 138 = .ok (.getfield 7, 3) := by decide +kernel
theorem dX10_adds_141 : decode cX10_adds 141 = .ok (.iload 6, 2) := by decide +kernel
theorem dX10_adds_143 : decode cX10_adds 143 = .ok (.iconst 5, 1) := by decide +kernel
theorem dX10_adds_144 : decode cX10_adds 144 = .ok (.iadd, 1) := by decide +kernel
theorem dX10_adds_145 : decode cX10_adds 145 = .ok (.iconst 0, 1) := by decide +kernel
theorem dX10_adds_146 : decode cX10_adds 146 = .ok (.iastore, 1) := by decide +kernel
theorem dX10_adds_147 : decode cX10_adds 147 = .ok (.aload_n 0, 1) := by decide +kernel
theorem dX10_adds_148 : decode cX10_adds 148 = .ok (.getfield 7, 3) := by decide +kernel
theorem dX10_adds_151 : decode cX10_adds 151 = .ok (.iload 6, 2) := by decide +kernel
theorem dX10_adds_153 : decode cX10_adds 153 = .ok (.bipush 6, 2) := by decide +kernel
theorem dX10_adds_155 : decode cX10_adds 155 = .ok (.iadd, 1) := by decide +kernel
theorem dX10_adds_156 : decode cX10_adds 156 = .ok (.iconst 0, 1) := by decide +kernel
theorem dX10_adds_157 : decode cX10_adds 157 = .ok (.iastore, 1) := by decide +kernel
theorem dX10_adds_158 : decode cX10_adds 158 = .ok (.aload_n 0, 1) := by decide +kernel
theorem dX10_adds_159 : decode cX10_adds 159 = .ok (.getfield 7, 3) := by decide +kernel
theorem dX10_adds_162 : decode cX10_adds 162 = .ok (.bipush 15, 2) := by decide +kernel
theorem dX10_adds_164 : decode cX10_adds 164 = .ok (.dup2, 1) := by decide +kernel
theorem dX10_adds_165 : decode cX10_adds 165 = .ok (.iaload, 1) := by decide +kernel
theorem dX10_adds_166 : decode cX10_adds 166 = .ok (.iconst 1, 1) := by decide +kernel
theorem dX10_adds_167 : decode cX10_adds 167 = .ok (.iadd, 1) := by decide +kernel
theorem dX10_adds_168 : decode cX10_adds 168 = .ok (.iastore, 1) := by decide +kernel
theorem dX10_adds_169 : decode cX10_adds 169 = .ok (.aload_n 0, 1) := by decide +kernel
theorem dX10_adds_170 : decode cX10_adds 170 = .ok (.getfield 7, 3) := by decide +kernel
theorem dX10_adds_173 : decode cX10_adds 173 = .ok (.bipush 15, 2) := by decide +kernel
theorem dX10_adds_175 : decode cX10_adds 175 = .ok (.iaload, 1) := by decide +kernel
theorem dX10_adds_176 : decode cX10_adds 176 = .ok (.iconst 1, 1) := by decide +kernel
theorem dX10_adds_177 : decode cX10_adds 177 = .ok (.isub, 1) := by decide +kernel
theorem dX10_adds_178 : decode cX10_adds 178 = .ok (.ireturn, 1) := by decide +kernel
set_option maxRecDepth 20000 in
theorem ggX10_addPrize_X10_keeps : GoodIn wsX10_addPrize wsX10_keeps := goodIn_r _ [5, 6, 7, 28, 29, 30, 31, 32, 33, 34, 35, 36, 37, 38, 39, 40, 41, 42] (by decide +kernel) (by decide +kernel)
set_option maxRecDepth 20000 in
theorem gX10_addPrize_X10_keeps : GoodIn wsX10_addPrize (wsV RX10 72 RX10 yX10_keeps wsX10_keeps) := goodIn_app (goodIn_of _ (by decide +kernel)) ggX10_addPrize_X10_keeps
set_option maxRecDepth 20000 in
theorem ggX10_addPrize_X10_adds : GoodIn wsX10_addPrize wsX10_adds := goodIn_r _ [11, 12, 13, 7, 14, 15, 16, 4, 17, 28, 29, 30, 31, 32, 33, 34, 35, 36, 37, 38, 39, 40, 41, 42] (by decide +kernel) (by decide +kernel)
set_option maxRecDepth 20000 in
theorem gX10_addPrize_X10_adds : GoodIn wsX10_addPrize (wsV RX10 116 RX10 yX10_adds wsX10_adds) := goodIn_app (goodIn_of _ (by decide +kernel)) ggX10_addPrize_X10_adds
set_option maxRecDepth 20000 in
theorem ggX10_addPrize_X10_acted : GoodIn wsX10_addPrize wsX10_acted := goodIn_r _ [21, 13, 6, 22, 23, 24, 4, 25, 26, 27, 28, 29, 30, 31, 32, 33, 34, 35, 36, 37, 38, 39, 40, 41, 42] (by decide +kernel) (by decide +kernel)
set_option maxRecDepth 20000 in
theorem gX10_addPrize_X10_acted : GoodIn wsX10_addPrize (wsV RX10 79 RX10 yX10_acted wsX10_acted) := goodIn_app (goodIn_of _ (by decide +kernel)) ggX10_addPrize_X10_acted
theorem dX10_addPrize_0 : decode cX10_addPrize 0 = .ok (.aload_n 0, 1) := by decide +kernel
theorem dX10_addPrize_1 : decode cX10_addPrize 1 = .ok (.invokevirtual 72, 3) := by decide +kernel
theorem dX10_addPrize_4 : decode cX10_addPrize 4 = .ok (.aload_n 0, 1) := by decide +kernel
theorem dX10_addPrize_5 : decode cX10_addPrize 5 = .ok (.aload_n 0, 1) := by decide +kernel
theorem dX10_addPrize_6 : decode cX10_addPrize 6 = .ok (.iload_n 1, 1) := by decide +kernel
theorem dX10_addPrize_7 : decode cX10_addPrize 7 = .ok (.iload_n 2, 1) := by decide +kernel
theorem dX10_addPrize_8 : decode cX10_addPrize 8 = .ok (.iload_n 3, 1) := by decide +kernel
theorem dX10_addPrize_9 : decode cX10_addPrize 9 = .ok (.iload 4, 2) := by decide +kernel
theorem dX10_addPrize_11 : decode cX10_addPrize 11 = .ok (.iload 5, 2) := by decide +kernel
theorem dX10_addPrize_13 : decode cX10_addPrize 13 = .ok (.invokevirtual 116, 3) := by decide +kernel
theorem dX10_addPrize_16 : decode cX10_addPrize 16 = .ok (.invokevirtual 79, 3) := by decide +kernel
theorem dX10_addPrize_19 : decode cX10_addPrize 19 = .ok (.ireturn, 1) := by decide +kernel
set_option maxRecDepth 20000 in
theorem ggX10_removePrize_X10_isPrize : GoodIn wsX10_removePrize wsX10_isPrize := goodIn_r _ [7, 2, 8, 9, 6, 10, 30, 31, 32, 33, 34, 35, 36, 37, 38, 39, 40, 41, 42, 43, 44] (by decide +kernel) (by decide +kernel)
set_option maxRecDepth 20000 in
theorem gX10_removePrize_X10_isPrize : GoodIn wsX10_removePrize (wsV RX10 120 RX10 yX10_isPrize wsX10_isPrize) := goodIn_app (goodIn_of _ (by decide +kernel)) ggX10_removePrize_X10_isPrize
set_option maxRecDepth 20000 in
theorem ggX10_removePrize_X10_keeps : GoodIn wsX10_removePrize wsX10_keeps := goodIn_r _ [14, 15, 2, 30, 31, 32, 33, 34, 35, 36, 37, 38, 39, 40, 41, 42, 43, 44] (by decide +kernel) (by decide +kernel)
set_option maxRecDepth 20000 in
theorem gX10_removePrize_X10_keeps : GoodIn wsX10_removePrize (wsV RX10 72 RX10 yX10_keeps wsX10_keeps) := goodIn_app (goodIn_of _ (by decide +kernel)) ggX10_removePrize_X10_keeps
set_option maxRecDepth 20000 in
theorem ggX10_removePrize_X10_priced : GoodIn wsX10_removePrize wsX10_priced := goodIn_r _ [19, 2, 30, 31, 32, 33, 34, 35, 36, 37, 38, 39, 40, 41, 42, 43, 44] (by decide +kernel) (by decide +kernel)
set_option maxRecDepth 20000 in
theorem gX10_removePrize_X10_priced : GoodIn wsX10_removePrize (wsV RX10 123 RX10 yX10_priced wsX10_priced) := goodIn_app (goodIn_of _ (by decide +kernel)) ggX10_removePrize_X10_priced
set_option maxRecDepth 20000 in
theorem ggX10_removePrize_X10_acted : GoodIn wsX10_removePrize wsX10_acted := goodIn_r _ [23, 1, 15, 24, 25, 26, 6, 27, 28, 29, 30, 31, 32, 33, 34, 35, 36, 37, 38, 39, 40, 41, 42, 43, 44] (by decide +kernel) (by decide +kernel)
set_option maxRecDepth 20000 in
theorem gX10_removePrize_X10_acted : GoodIn wsX10_removePrize (wsV RX10 79 RX10 yX10_acted wsX10_acted) := goodIn_app (goodIn_of _ (by decide +kernel)) ggX10_removePrize_X10_acted
theorem dX10_removePrize_0 : decode cX10_removePrize 0 = .ok (.aload_n 0, 1) := by decide +kernel
theorem dX10_removePrize_1 : decode cX10_removePrize 1 = .ok (.iload_n 1, 1) := by decide +kernel
theorem dX10_removePrize_2 : decode cX10_removePrize 2 = .ok (.invokevirtual 120, 3) := by decide +kernel
theorem dX10_removePrize_5 : decode cX10_removePrize 5 = .ok (.ifCond .ne 6, 3) := by decide +kernel
theorem dX10_removePrize_8 : decode cX10_removePrize 8 = .ok (.ldc 40, 2) := by decide +kernel
theorem dX10_removePrize_10 : decode cX10_removePrize 10 = .ok (.ireturn, 1) := by decide +kernel
theorem dX10_removePrize_11 : decode cX10_removePrize 11 = .ok (.aload_n 0, 1) := by decide +kernel
theorem dX10_removePrize_12 : decode cX10_removePrize 12 = .ok (.invokevirtual 72, 3) := by decide +kernel
theorem dX10_removePrize_15 : decode cX10_removePrize 15 = .ok (.aload_n 0, 1) := by decide +kernel
theorem dX10_removePrize_16 : decode cX10_removePrize 16 = .ok (.iload_n 1, 1) := by decide +kernel
theorem dX10_removePrize_17 : decode cX10_removePrize 17 = .ok (.iconst 2, 1) := by decide +kernel
theorem dX10_removePrize_18 : decode cX10_removePrize 18 = .ok (.invokevirtual 123, 3) := by decide +kernel
theorem dX10_removePrize_21 : decode cX10_removePrize 21 = .ok (.istore_n 2, 1) := by decide +kernel
theorem dX10_removePrize_22 : decode cX10_removePrize 22 = .ok (.aload_n 0, 1) := by decide +kernel
theorem dX10_removePrize_23 : decode cX10_removePrize 23 = .ok (.getfield 7, 3) := by decide +kernel
theorem dX10_removePrize_26 : decode cX10_removePrize 26 = .ok (.bipush 15, 2) := by decide +kernel
theorem dX10_removePrize_28 : decode cX10_removePrize 28 = .ok (.dup2, 1) := by decide +kernel
theorem dX10_removePrize_29 : decode cX10_removePrize 29 = .ok (.iaload, 1) := by decide +kernel
theorem dX10_removePrize_30 : decode cX10_removePrize 30 = .ok (.iconst 1, 1) := by decide +kernel
theorem dX10_removePrize_31 : decode cX10_removePrize 31 = .ok (.isub, 1) := by decide +kernel
theorem dX10_removePrize_32 : decode cX10_removePrize 32 = .ok (.iastore, 1) := by decide +kernel
theorem dX10_removePrize_33 : decode cX10_removePrize 33 = .ok (.bipush 7, 2) := by decide +kernel
theorem dX10_removePrize_35 : decode cX10_removePrize 35 = .ok (.iload_n 1, 1) := by decide +kernel
theorem dX10_removePrize_36 : decode cX10_removePrize 36 = .ok (.imul, 1) := by decide +kernel
theorem dX10_removePrize_37 : decode cX10_removePrize 37 = .ok (.istore_n 3, 1) := by decide +kernel
theorem dX10_removePrize_38 : decode cX10_removePrize 38 = .ok (.iload_n 3, 1) := by decide +kernel
theorem dX10_removePrize_39 : decode cX10_removePrize 39 = .ok (.bipush 7, 2) := by decide +kernel
theorem dX10_removePrize_41 : decode cX10_removePrize 41 = .ok (.aload_n 0, 1) := by decide +kernel
theorem dX10_removePrize_42 : decode cX10_removePrize 42 = .ok (.getfield 7, 3) := by decide +kernel
theorem dX10_removePrize_45 : decode cX10_removePrize 45 = .ok (.bipush 15, 2) := by decide +kernel
theorem dX10_removePrize_47 : decode cX10_removePrize 47 = .ok (.iaload, 1) := by decide +kernel
theorem dX10_removePrize_48 : decode cX10_removePrize 48 = .ok (.imul, 1) := by decide +kernel
theorem dX10_removePrize_49 : decode cX10_removePrize 49 = .ok (.if_icmp .ge 30, 3) := by decide +kernel
theorem dX10_removePrize_52 : decode cX10_removePrize 52 = .ok (.aload_n 0, 1) := by decide +kernel
theorem dX10_removePrize_53 : decode cX10_removePrize 53 = .ok (.getfield 7, 3) := by decide +kernel
theorem dX10_removePrize_56 : decode cX10_removePrize 56 = .ok (.bipush 52, 2) := by decide +kernel
theorem dX10_removePrize_58 : decode cX10_removePrize 58 = .ok (.iload_n 3, 1) := by decide +kernel
theorem dX10_removePrize_59 : decode cX10_removePrize 59 = .ok (.iadd, 1) := by decide +kernel
theorem dX10_removePrize_60 : decode cX10_removePrize 60 = .ok (.aload_n 0, 1) := by decide +kernel
theorem dX10_removePrize_61 : decode cX10_removePrize 61 = .ok (.getfield 7, 3) := by decide +kernel
theorem dX10_removePrize_64 : decode cX10_removePrize 64 = .ok (.bipush 52, 2) := by decide +kernel
theorem dX10_removePrize_66 : decode cX10_removePrize 66 = .ok (.iload_n 3, 1) := by decide +kernel
theorem dX10_removePrize_67 : decode cX10_removePrize 67 = .ok (.iadd, 1) := by decide +kernel
theorem dX10_removePrize_68 : decode cX10_removePrize 68 = .ok (.bipush 7, 2) := by decide +kernel
theorem dX10_removePrize_70 : decode cX10_removePrize 70 = .ok (.iadd, 1) := by decide +kernel
theorem dX10_removePrize_71 : decode cX10_removePrize 71 = .ok (.iaload, 1) := by decide +kernel
theorem dX10_removePrize_72 : decode cX10_removePrize 72 = .ok (.iastore, 1) := by decide +kernel
theorem dX10_removePrize_73 : decode cX10_removePrize 73 = .ok (.iinc 3 1, 3) := by decide +kernel
theorem dX10_removePrize_76 : decode cX10_removePrize 76 = .ok (.goto (-38), 3) := by decide +kernel
theorem dX10_removePrize_79 : decode cX10_removePrize 79 = .ok (.aload_n 0, 1) := by decide +kernel
theorem dX10_removePrize_80 : decode cX10_removePrize 80 = .ok (.iload_n 2, 1) := by decide +kernel
theorem dX10_removePrize_81 : decode cX10_removePrize 81 = .ok (.invokevirtual 79, 3) := by decide +kernel
theorem dX10_removePrize_84 : decode cX10_removePrize 84 = .ok (.ireturn, 1) := by decide +kernel
set_option maxRecDepth 20000 in
theorem ggX10_setPrice_X10_isPrize : GoodIn wsX10_setPrice wsX10_isPrize := goodIn_r _ [6, 7, 8, 9, 5, 10, 30, 31, 32, 33, 34, 35, 36, 37, 38, 39, 40, 41, 42, 43, 44] (by decide +kernel) (by decide +kernel)
set_option maxRecDepth 20000 in
theorem gX10_setPrice_X10_isPrize : GoodIn wsX10_setPrice (wsV RX10 120 RX10 yX10_isPrize wsX10_isPrize) := goodIn_app (goodIn_of _ (by decide +kernel)) ggX10_setPrice_X10_isPrize
set_option maxRecDepth 20000 in
theorem ggX10_setPrice_X10_keeps : GoodIn wsX10_setPrice wsX10_keeps := goodIn_r _ [14, 15, 7, 30, 31, 32, 33, 34, 35, 36, 37, 38, 39, 40, 41, 42, 43, 44] (by decide +kernel) (by decide +kernel)
set_option maxRecDepth 20000 in
theorem gX10_setPrice_X10_keeps : GoodIn wsX10_setPrice (wsV RX10 72 RX10 yX10_keeps wsX10_keeps) := goodIn_app (goodIn_of _ (by decide +kernel)) ggX10_setPrice_X10_keeps
set_option maxRecDepth 20000 in
theorem ggX10_setPrice_X10_sets : GoodIn wsX10_setPrice wsX10_sets := goodIn_r _ [19, 1, 7, 8, 9, 5, 10, 30, 31, 32, 33, 34, 35, 36, 37, 38, 39, 40, 41, 42, 43, 44] (by decide +kernel) (by decide +kernel)
set_option maxRecDepth 20000 in
theorem gX10_setPrice_X10_sets : GoodIn wsX10_setPrice (wsV RX10 85 RX10 yX10_sets wsX10_sets) := goodIn_app (goodIn_of _ (by decide +kernel)) ggX10_setPrice_X10_sets
set_option maxRecDepth 20000 in
theorem ggX10_setPrice_X10_acted : GoodIn wsX10_setPrice wsX10_acted := goodIn_r _ [23, 1, 15, 24, 25, 26, 5, 27, 28, 29, 30, 31, 32, 33, 34, 35, 36, 37, 38, 39, 40, 41, 42, 43, 44] (by decide +kernel) (by decide +kernel)
set_option maxRecDepth 20000 in
theorem gX10_setPrice_X10_acted : GoodIn wsX10_setPrice (wsV RX10 79 RX10 yX10_acted wsX10_acted) := goodIn_app (goodIn_of _ (by decide +kernel)) ggX10_setPrice_X10_acted
theorem dX10_setPrice_0 : decode cX10_setPrice 0 = .ok (.aload_n 0, 1) := by decide +kernel
theorem dX10_setPrice_1 : decode cX10_setPrice 1 = .ok (.iload_n 1, 1) := by decide +kernel
theorem dX10_setPrice_2 : decode cX10_setPrice 2 = .ok (.invokevirtual 120, 3) := by decide +kernel
theorem dX10_setPrice_5 : decode cX10_setPrice 5 = .ok (.ifCond .ne 6, 3) := by decide +kernel
theorem dX10_setPrice_8 : decode cX10_setPrice 8 = .ok (.ldc 40, 2) := by decide +kernel
theorem dX10_setPrice_10 : decode cX10_setPrice 10 = .ok (.ireturn, 1) := by decide +kernel
theorem dX10_setPrice_11 : decode cX10_setPrice 11 = .ok (.aload_n 0, 1) := by decide +kernel
theorem dX10_setPrice_12 : decode cX10_setPrice 12 = .ok (.invokevirtual 72, 3) := by decide +kernel
theorem dX10_setPrice_15 : decode cX10_setPrice 15 = .ok (.aload_n 0, 1) := by decide +kernel
theorem dX10_setPrice_16 : decode cX10_setPrice 16 = .ok (.aload_n 0, 1) := by decide +kernel
theorem dX10_setPrice_17 : decode cX10_setPrice 17 = .ok (.bipush 52, 2) := by decide +kernel
theorem dX10_setPrice_19 : decode cX10_setPrice 19 = .ok (.bipush 7, 2) := by decide +kernel
theorem dX10_setPrice_21 : decode cX10_setPrice 21 = .ok (.iload_n 1, 1) := by decide +kernel
theorem dX10_setPrice_22 : decode cX10_setPrice 22 = .ok (.imul, 1) := by decide +kernel
theorem dX10_setPrice_23 : decode cX10_setPrice 23 = .ok (.iadd, 1) := by decide +kernel
theorem dX10_setPrice_24 : decode cX10_setPrice 24 = .ok (.iload_n 2, 1) := by decide +kernel
theorem dX10_setPrice_25 : decode cX10_setPrice 25 = .ok (.iconst 1, 1) := by decide +kernel
theorem dX10_setPrice_26 : decode cX10_setPrice 26 = .ok (.sipush 5000, 3) := by decide +kernel
theorem dX10_setPrice_29 : decode cX10_setPrice 29 = .ok (.invokevirtual 85, 3) := by decide +kernel
theorem dX10_setPrice_32 : decode cX10_setPrice 32 = .ok (.invokevirtual 79, 3) := by decide +kernel
theorem dX10_setPrice_35 : decode cX10_setPrice 35 = .ok (.ireturn, 1) := by decide +kernel
theorem dX10_stocked_0 : decode cX10_stocked 0 = .ok (.iload_n 0, 1) := by decide +kernel
theorem dX10_stocked_1 : decode cX10_stocked 1 = .ok (.i2l, 1) := by decide +kernel
theorem dX10_stocked_2 : decode cX10_stocked 2 = .ok (.iload_n 1, 1) := by decide +kernel
theorem dX10_stocked_3 : decode cX10_stocked 3 = .ok (.i2l, 1) := by decide +kernel
theorem dX10_stocked_4 : decode cX10_stocked 4 = .ok (.iload_n 2, 1) := by decide +kernel
theorem dX10_stocked_5 : decode cX10_stocked 5 = .ok (.i2l, 1) := by decide +kernel
theorem dX10_stocked_6 : decode cX10_stocked 6 = .ok (.lmul, 1) := by decide +kernel
theorem dX10_stocked_7 : decode cX10_stocked 7 = .ok (.ladd, 1) := by decide +kernel
theorem dX10_stocked_8 : decode cX10_stocked 8 = .ok (.lstore_n 3, 1) := by decide +kernel
theorem dX10_stocked_9 : decode cX10_stocked 9 = .ok (.lload_n 3, 1) := by decide +kernel
theorem dX10_stocked_10 : decode cX10_stocked 10 = .ok (.ldc2_w 126, 3) := by decide +kernel
theorem dX10_stocked_13 : decode cX10_stocked 13 = .ok (.lcmp, 1) := by decide +kernel
theorem dX10_stocked_14 : decode cX10_stocked 14 = .ok (.ifCond .le 8, 3) := by decide +kernel
theorem dX10_stocked_17 : decode cX10_stocked 17 = .ok (.bipush 99, 2) := by decide +kernel
theorem dX10_stocked_19 : decode cX10_stocked 19 = .ok (.goto 5, 3) := by decide +kernel
theorem dX10_stocked_22 : decode cX10_stocked 22 = .ok (.lload_n 3, 1) := by decide +kernel
theorem dX10_stocked_23 : decode cX10_stocked 23 = .ok (.l2i, 1) := by decide +kernel
theorem dX10_stocked_24 : decode cX10_stocked 24 = .ok (.ireturn, 1) := by decide +kernel
set_option maxRecDepth 20000 in
theorem ggX10_buys_X10_isCustomer : GoodIn wsX10_buys wsX10_isCustomer := goodIn_r _ [9, 4, 10, 11, 8, 12, 29, 30, 31, 32, 33, 34, 35, 36, 37, 38, 39, 40, 41, 42, 43] (by decide +kernel) (by decide +kernel)
set_option maxRecDepth 20000 in
theorem gX10_buys_X10_isCustomer : GoodIn wsX10_buys (wsV RX10 93 RX10 yX10_isCustomer wsX10_isCustomer) := goodIn_app (goodIn_of _ (by decide +kernel)) ggX10_buys_X10_isCustomer
set_option maxRecDepth 20000 in
theorem ggX10_buys_X10_isPrize : GoodIn wsX10_buys wsX10_isPrize := goodIn_r _ [16, 4, 10, 11, 8, 12, 29, 30, 31, 32, 33, 34, 35, 36, 37, 38, 39, 40, 41, 42, 43] (by decide +kernel) (by decide +kernel)
set_option maxRecDepth 20000 in
theorem gX10_buys_X10_isPrize : GoodIn wsX10_buys (wsV RX10 120 RX10 yX10_isPrize wsX10_isPrize) := goodIn_app (goodIn_of _ (by decide +kernel)) ggX10_buys_X10_isPrize
set_option maxRecDepth 20000 in
theorem ggX10_buys_X10_in : GoodIn wsX10_buys wsX10_in := goodIn_r _ [12] (by decide +kernel) (by decide +kernel)
set_option maxRecDepth 20000 in
theorem gX10_buys_X10_in : GoodIn wsX10_buys (va_wsS RX10 32 yX10_in wsX10_in) := goodIn_app (goodIn_of _ (by decide +kernel)) ggX10_buys_X10_in
set_option maxRecDepth 20000 in
theorem ggX10_buys_X10_of : GoodIn wsX10_buys wsX10_of := goodIn_r _ [20, 4, 29, 30, 31, 32, 33, 34, 35, 36, 37, 38, 39, 40, 41, 42, 43] (by decide +kernel) (by decide +kernel)
set_option maxRecDepth 20000 in
theorem gX10_buys_X10_of : GoodIn wsX10_buys (wsV RX10 96 RX10 yX10_of wsX10_of) := goodIn_app (goodIn_of _ (by decide +kernel)) ggX10_buys_X10_of
set_option maxRecDepth 20000 in
theorem ggX10_buys_X10_priced : GoodIn wsX10_buys wsX10_priced := goodIn_r _ [24, 4, 29, 30, 31, 32, 33, 34, 35, 36, 37, 38, 39, 40, 41, 42, 43] (by decide +kernel) (by decide +kernel)
set_option maxRecDepth 20000 in
theorem gX10_buys_X10_priced : GoodIn wsX10_buys (wsV RX10 123 RX10 yX10_priced wsX10_priced) := goodIn_app (goodIn_of _ (by decide +kernel)) ggX10_buys_X10_priced
set_option maxRecDepth 20000 in
theorem ggX10_buys_X10_stocked : GoodIn wsX10_buys wsX10_stocked := goodIn_r _ [27, 28] (by decide +kernel) (by decide +kernel)
set_option maxRecDepth 20000 in
theorem gX10_buys_X10_stocked : GoodIn wsX10_buys (va_wsS RX10 128 yX10_stocked wsX10_stocked) := goodIn_app (goodIn_of _ (by decide +kernel)) ggX10_buys_X10_stocked
theorem dX10_buys_0 : decode cX10_buys 0 = .ok (.aload_n 0, 1) := by decide +kernel
theorem dX10_buys_1 : decode cX10_buys 1 = .ok (.iload_n 1, 1) := by decide +kernel
theorem dX10_buys_2 : decode cX10_buys 2 = .ok (.invokevirtual 93, 3) := by decide +kernel
theorem dX10_buys_5 : decode cX10_buys 5 = .ok (.ifCond .eq 21, 3) := by decide +kernel
theorem dX10_buys_8 : decode cX10_buys 8 = .ok (.aload_n 0, 1) := by decide +kernel
theorem dX10_buys_9 : decode cX10_buys 9 = .ok (.iload_n 2, 1) := by decide +kernel
theorem dX10_buys_10 : decode cX10_buys 10 = .ok (.invokevirtual 120, 3) := by decide +kernel
theorem dX10_buys_13 : decode cX10_buys 13 = .ok (.ifCond .eq 13, 3) := by decide +kernel
theorem dX10_buys_16 : decode cX10_buys 16 = .ok (.iload_n 3, 1) := by decide +kernel
theorem dX10_buys_17 : decode cX10_buys 17 = .ok (.iconst 1, 1) := by decide +kernel
theorem dX10_buys_18 : decode cX10_buys 18 = .ok (.bipush 99, 2) := by decide +kernel
theorem dX10_buys_20 : decode cX10_buys 20 = .ok (.invokestatic 32, 3) := by decide +kernel
theorem dX10_buys_23 : decode cX10_buys 23 = .ok (.ifCond .ne 6, 3) := by decide +kernel
theorem dX10_buys_26 : decode cX10_buys 26 = .ok (.ldc 40, 2) := by decide +kernel
theorem dX10_buys_28 : decode cX10_buys 28 = .ok (.ireturn, 1) := by decide +kernel
theorem dX10_buys_29 : decode cX10_buys 29 = .ok (.aload_n 0, 1) := by decide +kernel
theorem dX10_buys_30 : decode cX10_buys 30 = .ok (.iload_n 1, 1) := by decide +kernel
theorem dX10_buys_31 : decode cX10_buys 31 = .ok (.iconst 0, 1) := by decide +kernel
theorem dX10_buys_32 : decode cX10_buys 32 = .ok (.invokevirtual 96, 3) := by decide +kernel
theorem dX10_buys_35 : decode cX10_buys 35 = .ok (.iload_n 3, 1) := by decide +kernel
theorem dX10_buys_36 : decode cX10_buys 36 = .ok (.aload_n 0, 1) := by decide +kernel
theorem dX10_buys_37 : decode cX10_buys 37 = .ok (.iload_n 2, 1) := by decide +kernel
theorem dX10_buys_38 : decode cX10_buys 38 = .ok (.iconst 0, 1) := by decide +kernel
theorem dX10_buys_39 : decode cX10_buys 39 = .ok (.invokevirtual 123, 3) := by decide +kernel
theorem dX10_buys_42 : decode cX10_buys 42 = .ok (.imul, 1) := by decide +kernel
theorem dX10_buys_43 : decode cX10_buys 43 = .ok (.if_icmp .ge 6, 3) := by decide +kernel
theorem dX10_buys_46 : decode cX10_buys 46 = .ok (.ldc 108, 2) := by decide +kernel
theorem dX10_buys_48 : decode cX10_buys 48 = .ok (.ireturn, 1) := by decide +kernel
theorem dX10_buys_49 : decode cX10_buys 49 = .ok (.aload_n 0, 1) := by decide +kernel
theorem dX10_buys_50 : decode cX10_buys 50 = .ok (.iload_n 2, 1) := by decide +kernel
theorem dX10_buys_51 : decode cX10_buys 51 = .ok (.iconst 2, 1) := by decide +kernel
theorem dX10_buys_52 : decode cX10_buys 52 = .ok (.invokevirtual 123, 3) := by decide +kernel
theorem dX10_buys_55 : decode cX10_buys 55 = .ok (.iload_n 3, 1) := by decide +kernel
theorem dX10_buys_56 : decode cX10_buys 56 = .ok (.if_icmp .ge 6, 3) := by decide +kernel
theorem dX10_buys_59 : decode cX10_buys 59 = .ok (.ldc 89, 2) := by decide +kernel
theorem dX10_buys_61 : decode cX10_buys 61 = .ok (.ireturn, 1) := by decide +kernel
theorem dX10_buys_62 : decode cX10_buys 62 = .ok (.aload_n 0, 1) := by decide +kernel
theorem dX10_buys_63 : decode cX10_buys 63 = .ok (.getfield 7, 3) := by decide +kernel
theorem dX10_buys_66 : decode cX10_buys 66 = .ok (.bipush 16, 2) := by decide +kernel
theorem dX10_buys_68 : decode cX10_buys 68 = .ok (.bipush 6, 2) := by decide +kernel
theorem dX10_buys_70 : decode cX10_buys 70 = .ok (.iload_n 1, 1) := by decide +kernel
theorem dX10_buys_71 : decode cX10_buys 71 = .ok (.imul, 1) := by decide +kernel
theorem dX10_buys_72 : decode cX10_buys 72 = .ok (.iadd, 1) := by decide +kernel
theorem dX10_buys_73 : decode cX10_buys 73 = .ok (.dup2, 1) := by decide +kernel
theorem dX10_buys_74 : decode cX10_buys 74 = .ok (.iaload, 1) := by decide +kernel
theorem dX10_buys_75 : decode cX10_buys 75 = .ok (.iload_n 3, 1) := by decide +kernel
theorem dX10_buys_76 : decode cX10_buys 76 = .ok (.aload_n 0, 1) := by decide +kernel
theorem dX10_buys_77 : decode cX10_buys 77 = .ok (.iload_n 2, 1) := by decide +kernel
theorem dX10_buys_78 : decode cX10_buys 78 = .ok (.iconst 0, 1) := by decide +kernel
theorem dX10_buys_79 : decode cX10_buys 79 = .ok (.invokevirtual 123, 3) := by decide +kernel
theorem dX10_buys_82 : decode cX10_buys 82 = .ok (.imul, 1) := by decide +kernel
theorem dX10_buys_83 : decode cX10_buys 83 = .ok (.isub, 1) := by decide +kernel
theorem dX10_buys_84 : decode cX10_buys 84 = .ok (.iastore, 1) := by decide +kernel
theorem dX10_buys_85 : decode cX10_buys 85 = .ok (.bipush 52, 2) := by decide +kernel
theorem dX10_buys_87 : decode cX10_buys 87 = .ok (.bipush 7, 2) := by decide +kernel
theorem dX10_buys_89 : decode cX10_buys 89 = .ok (.iload_n 2, 1) := by decide +kernel
theorem dX10_buys_90 : decode cX10_buys 90 = .ok (.imul, 1) := by decide +kernel
theorem dX10_buys_91 : decode cX10_buys 91 = .ok (.iadd, 1) := by decide +kernel
theorem dX10_buys_92 : decode cX10_buys 92 = .ok (.istore 4, 2) := by decide +kernel
theorem dX10_buys_94 : decode cX10_buys 94 = .ok (.aload_n 0, 1) := by decide +kernel
theorem dX10_buys_95 : decode cX10_buys 95 = .ok (.getfield 7, 3) := by decide +kernel
theorem dX10_buys_98 : decode cX10_buys 98 = .ok (.iload 4, 2) := by decide +kernel
theorem dX10_buys_100 : decode cX10_buys 100 = .ok (.iconst 5, 1) := by decide +kernel
theorem dX10_buys_101 : decode cX10_buys 101 = .ok (.iadd, 1) := by decide +kernel
theorem dX10_buys_102 : decode cX10_buys 102 = .ok (.iaload, 1) := by decide +kernel
theorem dX10_buys_103 : decode cX10_buys 103 = .ok (.iload_n 3, 1) := by decide +kernel
theorem dX10_buys_104 : decode cX10_buys 104 = .ok (.aload_n 0, 1) := by decide +kernel
theorem dX10_buys_105 : decode cX10_buys 105 = .ok (.getfield 7, 3) := by decide +kernel
theorem dX10_buys_108 : decode cX10_buys 108 = .ok (.iload 4, 2) := by decide +kernel
theorem dX10_buys_110 : decode cX10_buys 110 = .ok (.iconst 1, 1) := by decide +kernel
theorem dX10_buys_111 : decode cX10_buys 111 = .ok (.iadd, 1) := by decide +kernel
theorem dX10_buys_112 : decode cX10_buys 112 = .ok (.iaload, 1) := by decide +kernel
theorem dX10_buys_113 : decode cX10_buys 113 = .ok (.imul, 1) := by decide +kernel
theorem dX10_buys_114 : decode cX10_buys 114 = .ok (.iadd, 1) := by decide +kernel
theorem dX10_buys_115 : decode cX10_buys 115 = .ok (.istore 5, 2) := by decide +kernel
theorem dX10_buys_117 : decode cX10_buys 117 = .ok (.iload 5, 2) := by decide +kernel
theorem dX10_buys_119 : decode cX10_buys 119 = .ok (.aload_n 0, 1) := by decide +kernel
theorem dX10_buys_120 : decode cX10_buys 120 = .ok (.getfield 7, 3) := by decide +kernel
theorem dX10_buys_123 : decode cX10_buys 123 = .ok (.iload 4, 2) := by decide +kernel
theorem dX10_buys_125 : decode cX10_buys 125 = .ok (.iconst 3, 1) := by decide +kernel
theorem dX10_buys_126 : decode cX10_buys 126 = .ok (.iadd, 1) := by decide +kernel
