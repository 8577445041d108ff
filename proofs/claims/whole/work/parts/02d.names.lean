set_option maxRecDepth 20000 in
theorem gX0_settleClaim_X0_kindAt : GoodIn wsX0_settleClaim (wsV RX0 72 RX0 yX0_kindAt wsX0_kindAt) := goodIn_app (goodIn_of _ (by decide +kernel)) ggX0_settleClaim_X0_kindAt
set_option maxRecDepth 20000 in
theorem ggX0_settleClaim_X0_allows : GoodIn wsX0_settleClaim wsX0_allows := goodIn_r _ [28, 29, 30, 31, 32, 33, 34, 35, 36, 37, 38, 39, 40, 41, 42, 43, 44, 45, 46, 47, 48, 49, 50, 51, 52, 18, 53, 54, 55, 56, 57, 58, 59, 60, 61, 62, 63, 64, 65, 66, 67, 68, 69, 70, 71, 72, 73, 17, 19, 96, 97, 98, 99, 100, 101, 102, 103, 104, 105, 106, 107, 108, 109] (by decide +kernel) (by decide +kernel)
set_option maxRecDepth 20000 in
theorem gX0_settleClaim_X0_allows : GoodIn wsX0_settleClaim (wsV RX0 141 RX0 yX0_allows wsX0_allows) := goodIn_app (goodIn_of _ (by decide +kernel)) ggX0_settleClaim_X0_allows
set_option maxRecDepth 20000 in
theorem ggX0_settleClaim_X1_gain : GoodIn wsX0_settleClaim wsX1_gain := goodIn_r _ [78, 79, 80, 37, 38, 39, 90, 91, 92, 93, 94, 95] (by decide +kernel) (by decide +kernel)
set_option maxRecDepth 20000 in
theorem gX0_settleClaim_X1_gain : GoodIn wsX0_settleClaim (wsV RX0 120 RX1 yX1_gain wsX1_gain) := goodIn_app (goodIn_of _ (by decide +kernel)) ggX0_settleClaim_X1_gain
set_option maxRecDepth 20000 in
theorem ggX0_settleClaim_X1_isNearer : GoodIn wsX0_settleClaim wsX1_isNearer := goodIn_r _ [84, 85, 86, 87, 38, 88, 89, 90, 91, 92, 93, 94, 95] (by decide +kernel) (by decide +kernel)
set_option maxRecDepth 20000 in
theorem gX0_settleClaim_X1_isNearer : GoodIn wsX0_settleClaim (wsV RX0 148 RX1 yX1_isNearer wsX1_isNearer) := goodIn_app (goodIn_of _ (by decide +kernel)) ggX0_settleClaim_X1_isNearer
theorem dX0_settleClaim_0 : decode cX0_settleClaim 0 = .ok (.aload_n 0, 1) := by decide +kernel
theorem dX0_settleClaim_1 : decode cX0_settleClaim 1 = .ok (.iload_n 1, 1) := by decide +kernel
theorem dX0_settleClaim_2 : decode cX0_settleClaim 2 = .ok (.invokevirtual 106, 3) := by decide +kernel
theorem dX0_settleClaim_5 : decode cX0_settleClaim 5 = .ok (.astore_n 3, 1) := by decide +kernel
theorem dX0_settleClaim_6 : decode cX0_settleClaim 6 = .ok (.aload_n 3, 1) := by decide +kernel
theorem dX0_settleClaim_7 : decode cX0_settleClaim 7 = .ok (.ifnull 14, 3) := by decide +kernel
theorem dX0_settleClaim_10 : decode cX0_settleClaim 10 = .ok (.iload_n 2, 1) := by decide +kernel
theorem dX0_settleClaim_11 : decode cX0_settleClaim 11 = .ok (.iconst 0, 1) := by decide +kernel
theorem dX0_settleClaim_12 : decode cX0_settleClaim 12 = .ok (.sipush 9999, 3) := by decide +kernel
theorem dX0_settleClaim_15 : decode cX0_settleClaim 15 = .ok (.invokestatic 68, 3) := by decide +kernel
theorem dX0_settleClaim_18 : decode cX0_settleClaim 18 = .ok (.ifCond .ne 6, 3) := by decide +kernel
theorem dX0_settleClaim_21 : decode cX0_settleClaim 21 = .ok (.ldc 76, 2) := by decide +kernel
theorem dX0_settleClaim_23 : decode cX0_settleClaim 23 = .ok (.ireturn, 1) := by decide +kernel
theorem dX0_settleClaim_24 : decode cX0_settleClaim 24 = .ok (.aload_n 3, 1) := by decide +kernel
theorem dX0_settleClaim_25 : decode cX0_settleClaim 25 = .ok (.getfield 127, 3) := by decide +kernel
theorem dX0_settleClaim_28 : decode cX0_settleClaim 28 = .ok (.ifCond .eq 11, 3) := by decide +kernel
theorem dX0_settleClaim_31 : decode cX0_settleClaim 31 = .ok (.iload_n 2, 1) := by decide +kernel
theorem dX0_settleClaim_32 : decode cX0_settleClaim 32 = .ok (.aload_n 3, 1) := by decide +kernel
theorem dX0_settleClaim_33 : decode cX0_settleClaim 33 = .ok (.getfield 131, 3) := by decide +kernel
theorem dX0_settleClaim_36 : decode cX0_settleClaim 36 = .ok (.if_icmp .ne 6, 3) := by decide +kernel
theorem dX0_settleClaim_39 : decode cX0_settleClaim 39 = .ok (.ldc 134, 2) := by decide +kernel
theorem dX0_settleClaim_41 : decode cX0_settleClaim 41 = .ok (.ireturn, 1) := by decide +kernel
theorem dX0_settleClaim_42 : decode cX0_settleClaim 42 = .ok (.aload_n 3, 1) := by decide +kernel
theorem dX0_settleClaim_43 : decode cX0_settleClaim 43 = .ok (.iconst 0, 1) := by decide +kernel
theorem dX0_settleClaim_44 : decode cX0_settleClaim 44 = .ok (.putfield 127, 3) := by decide +kernel
theorem dX0_settleClaim_47 : decode cX0_settleClaim 47 = .ok (.aload_n 0, 1) := by decide +kernel
theorem dX0_settleClaim_48 : decode cX0_settleClaim 48 = .ok (.aload_n 3, 1) := by decide +kernel
theorem dX0_settleClaim_49 : decode cX0_settleClaim 49 = .ok (.getfield 135, 3) := by decide +kernel
theorem dX0_settleClaim_52 : decode cX0_settleClaim 52 = .ok (.invokevirtual 72, 3) := by decide +kernel
theorem dX0_settleClaim_55 : decode cX0_settleClaim 55 = .ok (.astore 4, 2) := by decide +kernel
theorem dX0_settleClaim_57 : decode cX0_settleClaim 57 = .ok (.aload 4, 2) := by decide +kernel
theorem dX0_settleClaim_59 : decode cX0_settleClaim 59 = .ok (.ifnull 17, 3) := by decide +kernel
theorem dX0_settleClaim_62 : decode cX0_settleClaim 62 = .ok (.aload_n 0, 1) := by decide +kernel
theorem dX0_settleClaim_63 : decode cX0_settleClaim 63 = .ok (.aload_n 3, 1) := by decide +kernel
theorem dX0_settleClaim_64 : decode cX0_settleClaim 64 = .ok (.getfield 138, 3) := by decide +kernel
theorem dX0_settleClaim_67 : decode cX0_settleClaim 67 = .ok (.aload 4, 2) := by decide +kernel
theorem dX0_settleClaim_69 : decode cX0_settleClaim 69 = .ok (.iload_n 2, 1) := by decide +kernel
theorem dX0_settleClaim_70 : decode cX0_settleClaim 70 = .ok (.invokevirtual 141, 3) := by decide +kernel
theorem dX0_settleClaim_73 : decode cX0_settleClaim 73 = .ok (.ifCond .ne 5, 3) := by decide +kernel
theorem dX0_settleClaim_76 : decode cX0_settleClaim 76 = .ok (.iconst 0, 1) := by decide +kernel
theorem dX0_settleClaim_77 : decode cX0_settleClaim 77 = .ok (.ireturn, 1) := by decide +kernel
theorem dX0_settleClaim_78 : decode cX0_settleClaim 78 = .ok (.aload_n 3, 1) := by decide +kernel
theorem dX0_settleClaim_79 : decode cX0_settleClaim 79 = .ok (.aload_n 3, 1) := by decide +kernel
theorem dX0_settleClaim_80 : decode cX0_settleClaim 80 = .ok (.getfield 145, 3) := by decide +kernel
theorem dX0_settleClaim_83 : decode cX0_settleClaim 83 = .ok (.aload_n 3, 1) := by decide +kernel
theorem dX0_settleClaim_84 : decode cX0_settleClaim 84 = .ok (.getfield 131, 3) := by decide +kernel
theorem dX0_settleClaim_87 : decode cX0_settleClaim 87 = .ok (.isub, 1) := by decide +kernel
theorem dX0_settleClaim_88 : decode cX0_settleClaim 88 = .ok (.invokevirtual 120, 3) := by decide +kernel
theorem dX0_settleClaim_91 : decode cX0_settleClaim 91 = .ok (.aload_n 0, 1) := by decide +kernel
theorem dX0_settleClaim_92 : decode cX0_settleClaim 92 = .ok (.dup, 1) := by decide +kernel
theorem dX0_settleClaim_93 : decode cX0_settleClaim 93 = .ok (.getfield 65, 3) := by decide +kernel
theorem dX0_settleClaim_96 : decode cX0_settleClaim 96 = .ok (.aload_n 3, 1) := by decide +kernel
theorem dX0_settleClaim_97 : decode cX0_settleClaim 97 = .ok (.getfield 145, 3) := by decide +kernel
theorem dX0_settleClaim_100 : decode cX0_settleClaim 100 = .ok (.aload_n 3, 1) := by decide +kernel
theorem dX0_settleClaim_101 : decode cX0_settleClaim 101 = .ok (.getfield 131, 3) := by decide +kernel
theorem dX0_settleClaim_104 : decode cX0_settleClaim 104 = .ok (.isub, 1) := by decide +kernel
theorem dX0_settleClaim_105 : decode cX0_settleClaim 105 = .ok (.iadd, 1) := by decide +kernel
theorem dX0_settleClaim_106 : decode cX0_settleClaim 106 = .ok (.putfield 65, 3) := by decide +kernel
theorem dX0_settleClaim_109 : decode cX0_settleClaim 109 = .ok (.aload_n 3, 1) := by decide +kernel
theorem dX0_settleClaim_110 : decode cX0_settleClaim 110 = .ok (.iload_n 2, 1) := by decide +kernel
theorem dX0_settleClaim_111 : decode cX0_settleClaim 111 = .ok (.invokevirtual 148, 3) := by decide +kernel
theorem dX0_settleClaim_114 : decode cX0_settleClaim 114 = .ok (.ifCond .eq 5, 3) := by decide +kernel
theorem dX0_settleClaim_117 : decode cX0_settleClaim 117 = .ok (.iconst 1, 1) := by decide +kernel
theorem dX0_settleClaim_118 : decode cX0_settleClaim 118 = .ok (.ireturn, 1) := by decide +kernel
theorem dX0_settleClaim_119 : decode cX0_settleClaim 119 = .ok (.aload_n 3, 1) := by decide +kernel
theorem dX0_settleClaim_120 : decode cX0_settleClaim 120 = .ok (.aload_n 0, 1) := by decide +kernel
theorem dX0_settleClaim_121 : decode cX0_settleClaim 121 = .ok (.getfield 36, 3) := by decide +kernel
theorem dX0_settleClaim_124 : decode cX0_settleClaim 124 = .ok (.ineg, 1) := by decide +kernel
theorem dX0_settleClaim_125 : decode cX0_settleClaim 125 = .ok (.invokevirtual 120, 3) := by decide +kernel
theorem dX0_settleClaim_128 : decode cX0_settleClaim 128 = .ok (.iconst 2, 1) := by decide +kernel
theorem dX0_settleClaim_129 : decode cX0_settleClaim 129 = .ok (.ireturn, 1) := by decide +kernel
set_option maxRecDepth 20000 in
theorem ggX0_allows_X7_leastCount : GoodIn wsX0_allows wsX7_leastCount := goodIn_r _ [6, 7, 8, 9, 10, 11, 12, 13, 14, 15, 16, 17, 18, 19, 20, 21, 5, 22, 23, 24, 25, 26, 27, 28, 29, 30, 58, 59, 60, 61, 62] (by decide +kernel) (by decide +kernel)
set_option maxRecDepth 20000 in
theorem gX0_allows_X7_leastCount : GoodIn wsX0_allows (wsV RX0 152 RX7 yX7_leastCount wsX7_leastCount) := goodIn_app (goodIn_of _ (by decide +kernel)) ggX0_allows_X7_leastCount
set_option maxRecDepth 20000 in
theorem ggX0_allows_X7_greatestCount : GoodIn wsX0_allows wsX7_greatestCount := goodIn_r _ [34, 7, 35, 36, 37, 5, 38, 23, 39, 40, 41, 42, 43, 44, 45, 15, 46, 17, 18, 24, 25, 26, 27, 28, 29, 30, 58, 59, 60, 61, 62] (by decide +kernel) (by decide +kernel)
set_option maxRecDepth 20000 in
theorem gX0_allows_X7_greatestCount : GoodIn wsX0_allows (wsV RX0 156 RX7 yX7_greatestCount wsX7_greatestCount) := goodIn_app (goodIn_of _ (by decide +kernel)) ggX0_allows_X7_greatestCount
set_option maxRecDepth 20000 in
theorem ggX0_allows_X9_within : GoodIn wsX0_allows wsX9_within := goodIn_r _ [48] (by decide +kernel) (by decide +kernel)
set_option maxRecDepth 20000 in
theorem gX0_allows_X9_within_n68 : GoodIn wsX0_allows (wsX9_within) := ggX0_allows_X9_within
theorem dX0_allows_0 : decode cX0_allows 0 = .ok (.iload_n 3, 1) := by decide +kernel
theorem dX0_allows_1 : decode cX0_allows 1 = .ok (.aload_n 0, 1) := by decide +kernel
theorem dX0_allows_2 : decode cX0_allows 2 = .ok (.getfield 20, 3) := by decide +kernel
theorem dX0_allows_5 : decode cX0_allows 5 = .ok (.iload_n 1, 1) := by decide +kernel
theorem dX0_allows_6 : decode cX0_allows 6 = .ok (.aload_n 2, 1) := by decide +kernel
theorem dX0_allows_7 : decode cX0_allows 7 = .ok (.invokevirtual 152, 3) := by decide +kernel
theorem dX0_allows_10 : decode cX0_allows 10 = .ok (.aload_n 0, 1) := by decide +kernel
theorem dX0_allows_11 : decode cX0_allows 11 = .ok (.getfield 20, 3) := by decide +kernel
theorem dX0_allows_14 : decode cX0_allows 14 = .ok (.iload_n 1, 1) := by decide +kernel
theorem dX0_allows_15 : decode cX0_allows 15 = .ok (.aload_n 2, 1) := by decide +kernel
theorem dX0_allows_16 : decode cX0_allows 16 = .ok (.invokevirtual 156, 3) := by decide +kernel
theorem dX0_allows_19 : decode cX0_allows 19 = .ok (.invokestatic 68, 3) := by decide +kernel
theorem dX0_allows_22 : decode cX0_allows 22 = .ok (.ireturn, 1) := by decide +kernel
set_option maxRecDepth 20000 in
theorem ggX0_placePrize_X9_within : GoodIn wsX0_placePrize wsX9_within := goodIn_r _ [8] (by decide +kernel) (by decide +kernel)
set_option maxRecDepth 20000 in
theorem gX0_placePrize_X9_within_n68 : GoodIn wsX0_placePrize (wsX9_within) := ggX0_placePrize_X9_within
set_option maxRecDepth 20000 in
theorem ggX0_placePrize_X5_begin : GoodIn wsX0_placePrize wsX5_begin := goodIn_r _ [13, 14, 15, 16, 17, 18, 19, 20, 30, 31, 32, 33, 34, 35, 36] (by decide +kernel) (by decide +kernel)
set_option maxRecDepth 20000 in
theorem gX0_placePrize_X5_begin : GoodIn wsX0_placePrize (wsV RX0 160 RX5 yX5_begin wsX5_begin) := goodIn_app (goodIn_of _ (by decide +kernel)) ggX0_placePrize_X5_begin
theorem dX0_placePrize_0 : decode cX0_placePrize 0 = .ok (.iload_n 1, 1) := by decide +kernel
theorem dX0_placePrize_1 : decode cX0_placePrize 1 = .ok (.iconst 1, 1) := by decide +kernel
theorem dX0_placePrize_2 : decode cX0_placePrize 2 = .ok (.sipush 5000, 3) := by decide +kernel
theorem dX0_placePrize_5 : decode cX0_placePrize 5 = .ok (.invokestatic 68, 3) := by decide +kernel
theorem dX0_placePrize_8 : decode cX0_placePrize 8 = .ok (.ifCond .eq 24, 3) := by decide +kernel
theorem dX0_placePrize_11 : decode cX0_placePrize 11 = .ok (.iload_n 2, 1) := by decide +kernel
theorem dX0_placePrize_12 : decode cX0_placePrize 12 = .ok (.iconst 1, 1) := by decide +kernel
theorem dX0_placePrize_13 : decode cX0_placePrize 13 = .ok (.sipush 20000, 3) := by decide +kernel
theorem dX0_placePrize_16 : decode cX0_placePrize 16 = .ok (.invokestatic 68, 3) := by decide +kernel
theorem dX0_placePrize_19 : decode cX0_placePrize 19 = .ok (.ifCond .eq 13, 3) := by decide +kernel
theorem dX0_placePrize_22 : decode cX0_placePrize 22 = .ok (.iload_n 3, 1) := by decide +kernel
theorem dX0_placePrize_23 : decode cX0_placePrize 23 = .ok (.iconst 0, 1) := by decide +kernel
theorem dX0_placePrize_24 : decode cX0_placePrize 24 = .ok (.bipush 99, 2) := by decide +kernel
theorem dX0_placePrize_26 : decode cX0_placePrize 26 = .ok (.invokestatic 68, 3) := by decide +kernel
theorem dX0_placePrize_29 : decode cX0_placePrize 29 = .ok (.ifCond .ne 6, 3) := by decide +kernel
theorem dX0_placePrize_32 : decode cX0_placePrize 32 = .ok (.ldc 76, 2) := by decide +kernel
theorem dX0_placePrize_34 : decode cX0_placePrize 34 = .ok (.ireturn, 1) := by decide +kernel
theorem dX0_placePrize_35 : decode cX0_placePrize 35 = .ok (.iload 4, 2) := by decide +kernel
theorem dX0_placePrize_37 : decode cX0_placePrize 37 = .ok (.iconst 1, 1) := by decide +kernel
theorem dX0_placePrize_38 : decode cX0_placePrize 38 = .ok (.ldc 159, 2) := by decide +kernel
theorem dX0_placePrize_40 : decode cX0_placePrize 40 = .ok (.invokestatic 68, 3) := by decide +kernel
theorem dX0_placePrize_43 : decode cX0_placePrize 43 = .ok (.ifCond .eq 14, 3) := by decide +kernel
theorem dX0_placePrize_46 : decode cX0_placePrize 46 = .ok (.iload 5, 2) := by decide +kernel
theorem dX0_placePrize_48 : decode cX0_placePrize 48 = .ok (.iconst 1, 1) := by decide +kernel
theorem dX0_placePrize_49 : decode cX0_placePrize 49 = .ok (.ldc 159, 2) := by decide +kernel
theorem dX0_placePrize_51 : decode cX0_placePrize 51 = .ok (.invokestatic 68, 3) := by decide +kernel
theorem dX0_placePrize_54 : decode cX0_placePrize 54 = .ok (.ifCond .ne 6, 3) := by decide +kernel
theorem dX0_placePrize_57 : decode cX0_placePrize 57 = .ok (.ldc 76, 2) := by decide +kernel
theorem dX0_placePrize_59 : decode cX0_placePrize 59 = .ok (.ireturn, 1) := by decide +kernel
theorem dX0_placePrize_60 : decode cX0_placePrize 60 = .ok (.aload_n 0, 1) := by decide +kernel
theorem dX0_placePrize_61 : decode cX0_placePrize 61 = .ok (.getfield 59, 3) := by decide +kernel
theorem dX0_placePrize_64 : decode cX0_placePrize 64 = .ok (.iconst 0, 1) := by decide +kernel
theorem dX0_placePrize_65 : decode cX0_placePrize 65 = .ok (.iconst 5, 1) := by decide +kernel
theorem dX0_placePrize_66 : decode cX0_placePrize 66 = .ok (.invokestatic 68, 3) := by decide +kernel
theorem dX0_placePrize_69 : decode cX0_placePrize 69 = .ok (.ifCond .ne 6, 3) := by decide +kernel
theorem dX0_placePrize_72 : decode cX0_placePrize 72 = .ok (.ldc 101, 2) := by decide +kernel
theorem dX0_placePrize_74 : decode cX0_placePrize 74 = .ok (.ireturn, 1) := by decide +kernel
theorem dX0_placePrize_75 : decode cX0_placePrize 75 = .ok (.aload_n 0, 1) := by decide +kernel
theorem dX0_placePrize_76 : decode cX0_placePrize 76 = .ok (.getfield 32, 3) := by decide +kernel
theorem dX0_placePrize_79 : decode cX0_placePrize 79 = .ok (.aload_n 0, 1) := by decide +kernel
theorem dX0_placePrize_80 : decode cX0_placePrize 80 = .ok (.getfield 59, 3) := by decide +kernel
theorem dX0_placePrize_83 : decode cX0_placePrize 83 = .ok (.aaload, 1) := by decide +kernel
theorem dX0_placePrize_84 : decode cX0_placePrize 84 = .ok (.iload_n 1, 1) := by decide +kernel
theorem dX0_placePrize_85 : decode cX0_placePrize 85 = .ok (.iload_n 2, 1) := by decide +kernel
theorem dX0_placePrize_86 : decode cX0_placePrize 86 = .ok (.iload_n 3, 1) := by decide +kernel
theorem dX0_placePrize_87 : decode cX0_placePrize 87 = .ok (.iload 4, 2) := by decide +kernel
theorem dX0_placePrize_89 : decode cX0_placePrize 89 = .ok (.iload 5, 2) := by decide +kernel
theorem dX0_placePrize_91 : decode cX0_placePrize 91 = .ok (.invokevirtual 160, 3) := by decide +kernel
theorem dX0_placePrize_94 : decode cX0_placePrize 94 = .ok (.aload_n 0, 1) := by decide +kernel
theorem dX0_placePrize_95 : decode cX0_placePrize 95 = .ok (.dup, 1) := by decide +kernel
theorem dX0_placePrize_96 : decode cX0_placePrize 96 = .ok (.getfield 59, 3) := by decide +kernel
theorem dX0_placePrize_99 : decode cX0_placePrize 99 = .ok (.iconst 1, 1) := by decide +kernel
theorem dX0_placePrize_100 : decode cX0_placePrize 100 = .ok (.iadd, 1) := by decide +kernel
theorem dX0_placePrize_101 : decode cX0_placePrize 101 = .ok (.putfield 59, 3) := by decide +kernel
theorem dX0_placePrize_104 : decode cX0_placePrize 104 = .ok (.aload_n 0, 1) := by decide +kernel
theorem dX0_placePrize_105 : decode cX0_placePrize 105 = .ok (.getfield 59, 3) := by decide +kernel
theorem dX0_placePrize_108 : decode cX0_placePrize 108 = .ok (.iconst 1, 1) := by decide +kernel
theorem dX0_placePrize_109 : decode cX0_placePrize 109 = .ok (.isub, 1) := by decide +kernel
theorem dX0_placePrize_110 : decode cX0_placePrize 110 = .ok (.ireturn, 1) := by decide +kernel
set_option maxRecDepth 20000 in
theorem ggX0_dropPrize_X0_prizeAt : GoodIn wsX0_dropPrize wsX0_prizeAt := goodIn_r _ [9, 4, 3, 10, 11, 12, 32, 33, 34, 35, 36, 37, 38, 39, 40] (by decide +kernel) (by decide +kernel)
set_option maxRecDepth 20000 in
theorem gX0_dropPrize_X0_prizeAt : GoodIn wsX0_dropPrize (wsV RX0 163 RX0 yX0_prizeAt wsX0_prizeAt) := goodIn_app (goodIn_of _ (by decide +kernel)) ggX0_dropPrize_X0_prizeAt
set_option maxRecDepth 20000 in
theorem ggX0_dropPrize_X5_begin : GoodIn wsX0_dropPrize wsX5_begin := goodIn_r _ [17, 18, 19, 20, 21, 22, 23, 24, 25, 26, 27, 28, 29, 30, 31] (by decide +kernel) (by decide +kernel)
set_option maxRecDepth 20000 in
theorem gX0_dropPrize_X5_begin : GoodIn wsX0_dropPrize (wsV RX0 160 RX5 yX5_begin wsX5_begin) := goodIn_app (goodIn_of _ (by decide +kernel)) ggX0_dropPrize_X5_begin
theorem dX0_dropPrize_0 : decode cX0_dropPrize 0 = .ok (.aload_n 0, 1) := by decide +kernel
theorem dX0_dropPrize_1 : decode cX0_dropPrize 1 = .ok (.iload_n 1, 1) := by decide +kernel
theorem dX0_dropPrize_2 : decode cX0_dropPrize 2 = .ok (.invokevirtual 163, 3) := by decide +kernel
theorem dX0_dropPrize_5 : decode cX0_dropPrize 5 = .ok (.astore_n 2, 1) := by decide +kernel
theorem dX0_dropPrize_6 : decode cX0_dropPrize 6 = .ok (.aload_n 2, 1) := by decide +kernel
theorem dX0_dropPrize_7 : decode cX0_dropPrize 7 = .ok (.ifnonnull 6, 3) := by decide +kernel
theorem dX0_dropPrize_10 : decode cX0_dropPrize 10 = .ok (.ldc 76, 2) := by decide +kernel
theorem dX0_dropPrize_12 : decode cX0_dropPrize 12 = .ok (.ireturn, 1) := by decide +kernel
theorem dX0_dropPrize_13 : decode cX0_dropPrize 13 = .ok (.aload_n 2, 1) := by decide +kernel
theorem dX0_dropPrize_14 : decode cX0_dropPrize 14 = .ok (.getfield 167, 3) := by decide +kernel
theorem dX0_dropPrize_17 : decode cX0_dropPrize 17 = .ok (.istore_n 3, 1) := by decide +kernel
theorem dX0_dropPrize_18 : decode cX0_dropPrize 18 = .ok (.iload_n 1, 1) := by decide +kernel
theorem dX0_dropPrize_19 : decode cX0_dropPrize 19 = .ok (.istore 4, 2) := by decide +kernel
theorem dX0_dropPrize_21 : decode cX0_dropPrize 21 = .ok (.iload 4, 2) := by decide +kernel
theorem dX0_dropPrize_23 : decode cX0_dropPrize 23 = .ok (.iconst 5, 1) := by decide +kernel
theorem dX0_dropPrize_24 : decode cX0_dropPrize 24 = .ok (.if_icmp .ge 25, 3) := by decide +kernel
theorem dX0_dropPrize_27 : decode cX0_dropPrize 27 = .ok (.aload_n 0, 1) := by decide +kernel
theorem dX0_dropPrize_28 : decode cX0_dropPrize 28 = .ok (.getfield 32, 3) := by decide +kernel
theorem dX0_dropPrize_31 : decode cX0_dropPrize 31 = .ok (.iload 4, 2) := by decide +kernel
theorem dX0_dropPrize_33 : decode cX0_dropPrize 33 = .ok (.aload_n 0, 1) := by decide +kernel
theorem dX0_dropPrize_34 : decode cX0_dropPrize 34 = .ok (.getfield 32, 3) := by decide +kernel
theorem dX0_dropPrize_37 : decode cX0_dropPrize 37 = .ok (.iload 4, 2) := by decide +kernel
theorem dX0_dropPrize_39 : decode cX0_dropPrize 39 = .ok (.iconst 1, 1) := by decide +kernel
theorem dX0_dropPrize_40 : decode cX0_dropPrize 40 = .ok (.iadd, 1) := by decide +kernel
theorem dX0_dropPrize_41 : decode cX0_dropPrize 41 = .ok (.aaload, 1) := by decide +kernel
theorem dX0_dropPrize_42 : decode cX0_dropPrize 42 = .ok (.aastore, 1) := by decide +kernel
theorem dX0_dropPrize_43 : decode cX0_dropPrize 43 = .ok (.iinc 4 1, 3) := by decide +kernel
theorem dX0_dropPrize_46 : decode cX0_dropPrize 46 = .ok (.goto (-25), 3) := by decide +kernel
theorem dX0_dropPrize_49 : decode cX0_dropPrize 49 = .ok (.aload_n 0, 1) := by decide +kernel
theorem dX0_dropPrize_50 : decode cX0_dropPrize 50 = .ok (.getfield 32, 3) := by decide +kernel
theorem dX0_dropPrize_53 : decode cX0_dropPrize 53 = .ok (.iconst 5, 1) := by decide +kernel
theorem dX0_dropPrize_54 : decode cX0_dropPrize 54 = .ok (.aload_n 2, 1) := by decide +kernel
theorem dX0_dropPrize_55 : decode cX0_dropPrize 55 = .ok (.aastore, 1) := by decide +kernel
theorem dX0_dropPrize_56 : decode cX0_dropPrize 56 = .ok (.aload_n 2, 1) := by decide +kernel
theorem dX0_dropPrize_57 : decode cX0_dropPrize 57 = .ok (.iconst 0, 1) := by decide +kernel
theorem dX0_dropPrize_58 : decode cX0_dropPrize 58 = .ok (.iconst 0, 1) := by decide +kernel
theorem dX0_dropPrize_59 : decode cX0_dropPrize 59 = .ok (.iconst 0, 1) := by decide +kernel
theorem dX0_dropPrize_60 : decode cX0_dropPrize 60 = .ok (.iconst 0, 1) := by decide +kernel
theorem dX0_dropPrize_61 : decode cX0_dropPrize 61 = .ok (.iconst 0, 1) := by decide +kernel
theorem dX0_dropPrize_62 : decode cX0_dropPrize 62 = .ok (.invokevirtual 160, 3) := by decide +kernel
theorem dX0_dropPrize_65 : decode cX0_dropPrize 65 = .ok (.aload_n 0, 1) := by decide +kernel
theorem dX0_dropPrize_66 : decode cX0_dropPrize 66 = .ok (.dup, 1) := by decide +kernel
theorem dX0_dropPrize_67 : decode cX0_dropPrize 67 = .ok (.getfield 59, 3) := by decide +kernel
theorem dX0_dropPrize_70 : decode cX0_dropPrize 70 = .ok (.iconst 1, 1) := by decide +kernel
theorem dX0_dropPrize_71 : decode cX0_dropPrize 71 = .ok (.isub, 1) := by decide +kernel
theorem dX0_dropPrize_72 : decode cX0_dropPrize 72 = .ok (.putfield 59, 3) := by decide +kernel
theorem dX0_dropPrize_75 : decode cX0_dropPrize 75 = .ok (.iload_n 3, 1) := by decide +kernel
theorem dX0_dropPrize_76 : decode cX0_dropPrize 76 = .ok (.ireturn, 1) := by decide +kernel
set_option maxRecDepth 20000 in
theorem ggX0_changePrice_X0_prizeAt : GoodIn wsX0_changePrice wsX0_prizeAt := goodIn_r _ [7, 8, 9, 10, 11, 12, 20, 21, 22, 23, 24, 25, 26, 27, 28] (by decide +kernel) (by decide +kernel)
set_option maxRecDepth 20000 in
theorem gX0_changePrice_X0_prizeAt : GoodIn wsX0_changePrice (wsV RX0 163 RX0 yX0_prizeAt wsX0_prizeAt) := goodIn_app (goodIn_of _ (by decide +kernel)) ggX0_changePrice_X0_prizeAt
set_option maxRecDepth 20000 in
theorem ggX0_changePrice_X9_within : GoodIn wsX0_changePrice wsX9_within := goodIn_r _ [12] (by decide +kernel) (by decide +kernel)
set_option maxRecDepth 20000 in
theorem gX0_changePrice_X9_within_n68 : GoodIn wsX0_changePrice (wsX9_within) := ggX0_changePrice_X9_within
theorem dX0_changePrice_0 : decode cX0_changePrice 0 = .ok (.aload_n 0, 1) := by decide +kernel
theorem dX0_changePrice_1 : decode cX0_changePrice 1 = .ok (.iload_n 1, 1) := by decide +kernel
theorem dX0_changePrice_2 : decode cX0_changePrice 2 = .ok (.invokevirtual 163, 3) := by decide +kernel
theorem dX0_changePrice_5 : decode cX0_changePrice 5 = .ok (.astore_n 3, 1) := by decide +kernel
theorem dX0_changePrice_6 : decode cX0_changePrice 6 = .ok (.aload_n 3, 1) := by decide +kernel
theorem dX0_changePrice_7 : decode cX0_changePrice 7 = .ok (.ifnull 14, 3) := by decide +kernel
theorem dX0_changePrice_10 : decode cX0_changePrice 10 = .ok (.iload_n 2, 1) := by decide +kernel
theorem dX0_changePrice_11 : decode cX0_changePrice 11 = .ok (.iconst 1, 1) := by decide +kernel
theorem dX0_changePrice_12 : decode cX0_changePrice 12 = .ok (.sipush 5000, 3) := by decide +kernel
theorem dX0_changePrice_15 : decode cX0_changePrice 15 = .ok (.invokestatic 68, 3) := by decide +kernel
theorem dX0_changePrice_18 : decode cX0_changePrice 18 = .ok (.ifCond .ne 6, 3) := by decide +kernel
theorem dX0_changePrice_21 : decode cX0_changePrice 21 = .ok (.ldc 76, 2) := by decide +kernel
theorem dX0_changePrice_23 : decode cX0_changePrice 23 = .ok (.ireturn, 1) := by decide +kernel
theorem dX0_changePrice_24 : decode cX0_changePrice 24 = .ok (.aload_n 3, 1) := by decide +kernel
theorem dX0_changePrice_25 : decode cX0_changePrice 25 = .ok (.getfield 170, 3) := by decide +kernel
theorem dX0_changePrice_28 : decode cX0_changePrice 28 = .ok (.istore 4, 2) := by decide +kernel
theorem dX0_changePrice_30 : decode cX0_changePrice 30 = .ok (.aload_n 3, 1) := by decide +kernel
theorem dX0_changePrice_31 : decode cX0_changePrice 31 = .ok (.iload_n 2, 1) := by decide +kernel
theorem dX0_changePrice_32 : decode cX0_changePrice 32 = .ok (.putfield 170, 3) := by decide +kernel
theorem dX0_changePrice_35 : decode cX0_changePrice 35 = .ok (.iload 4, 2) := by decide +kernel
theorem dX0_changePrice_37 : decode cX0_changePrice 37 = .ok (.ireturn, 1) := by decide +kernel
set_option maxRecDepth 20000 in
theorem ggX0_sellPrize_X0_customerAt : GoodIn wsX0_sellPrize wsX0_customerAt := goodIn_r _ [11, 12, 13, 14, 15, 16, 57, 58, 59, 60, 61, 62, 63, 64, 65] (by decide +kernel) (by decide +kernel)
set_option maxRecDepth 20000 in
theorem gX0_sellPrize_X0_customerAt : GoodIn wsX0_sellPrize (wsV RX0 106 RX0 yX0_customerAt wsX0_customerAt) := goodIn_app (goodIn_of _ (by decide +kernel)) ggX0_sellPrize_X0_customerAt
set_option maxRecDepth 20000 in
theorem ggX0_sellPrize_X0_prizeAt : GoodIn wsX0_sellPrize wsX0_prizeAt := goodIn_r _ [20, 21, 22, 14, 15, 16, 57, 58, 59, 60, 61, 62, 63, 64, 65] (by decide +kernel) (by decide +kernel)
set_option maxRecDepth 20000 in
theorem gX0_sellPrize_X0_prizeAt : GoodIn wsX0_sellPrize (wsV RX0 163 RX0 yX0_prizeAt wsX0_prizeAt) := goodIn_app (goodIn_of _ (by decide +kernel)) ggX0_sellPrize_X0_prizeAt
set_option maxRecDepth 20000 in
theorem ggX0_sellPrize_X9_within : GoodIn wsX0_sellPrize wsX9_within := goodIn_r _ [16] (by decide +kernel) (by decide +kernel)
set_option maxRecDepth 20000 in
theorem gX0_sellPrize_X9_within_n68 : GoodIn wsX0_sellPrize (wsX9_within) := ggX0_sellPrize_X9_within
set_option maxRecDepth 20000 in
theorem ggX0_sellPrize_X5_sell : GoodIn wsX0_sellPrize wsX5_sell := goodIn_r _ [27, 28, 29, 30, 31, 32, 33, 34, 35, 36, 37, 38, 15, 39, 40, 41, 42, 43, 50, 51, 52, 53, 54, 55, 56] (by decide +kernel) (by decide +kernel)
set_option maxRecDepth 20000 in
theorem gX0_sellPrize_X5_sell : GoodIn wsX0_sellPrize (wsV RX0 173 RX5 yX5_sell wsX5_sell) := goodIn_app (goodIn_of _ (by decide +kernel)) ggX0_sellPrize_X5_sell
theorem dX0_sellPrize_0 : decode cX0_sellPrize 0 = .ok (.aload_n 0, 1) := by decide +kernel
theorem dX0_sellPrize_1 : decode cX0_sellPrize 1 = .ok (.iload_n 1, 1) := by decide +kernel
theorem dX0_sellPrize_2 : decode cX0_sellPrize 2 = .ok (.invokevirtual 106, 3) := by decide +kernel
theorem dX0_sellPrize_5 : decode cX0_sellPrize 5 = .ok (.astore 4, 2) := by decide +kernel
theorem dX0_sellPrize_7 : decode cX0_sellPrize 7 = .ok (.aload_n 0, 1) := by decide +kernel
theorem dX0_sellPrize_8 : decode cX0_sellPrize 8 = .ok (.iload_n 2, 1) := by decide +kernel
theorem dX0_sellPrize_9 : decode cX0_sellPrize 9 = .ok (.invokevirtual 163, 3) := by decide +kernel
theorem dX0_sellPrize_12 : decode cX0_sellPrize 12 = .ok (.astore 5, 2) := by decide +kernel
theorem dX0_sellPrize_14 : decode cX0_sellPrize 14 = .ok (.aload 4, 2) := by decide +kernel
theorem dX0_sellPrize_16 : decode cX0_sellPrize 16 = .ok (.ifnull 18, 3) := by decide +kernel
theorem dX0_sellPrize_19 : decode cX0_sellPrize 19 = .ok (.aload 5, 2) := by decide +kernel
theorem dX0_sellPrize_21 : decode cX0_sellPrize 21 = .ok (.ifnull 13, 3) := by decide +kernel
theorem dX0_sellPrize_24 : decode cX0_sellPrize 24 = .ok (.iload_n 3, 1) := by decide +kernel
theorem dX0_sellPrize_25 : decode cX0_sellPrize 25 = .ok (.iconst 1, 1) := by decide +kernel
theorem dX0_sellPrize_26 : decode cX0_sellPrize 26 = .ok (.bipush 99, 2) := by decide +kernel
theorem dX0_sellPrize_28 : decode cX0_sellPrize 28 = .ok (.invokestatic 68, 3) := by decide +kernel
theorem dX0_sellPrize_31 : decode cX0_sellPrize 31 = .ok (.ifCond .ne 6, 3) := by decide +kernel
theorem dX0_sellPrize_34 : decode cX0_sellPrize 34 = .ok (.ldc 76, 2) := by decide +kernel
theorem dX0_sellPrize_36 : decode cX0_sellPrize 36 = .ok (.ireturn, 1) := by decide +kernel
theorem dX0_sellPrize_37 : decode cX0_sellPrize 37 = .ok (.aload 4, 2) := by decide +kernel
theorem dX0_sellPrize_39 : decode cX0_sellPrize 39 = .ok (.getfield 110, 3) := by decide +kernel
theorem dX0_sellPrize_42 : decode cX0_sellPrize 42 = .ok (.iload_n 3, 1) := by decide +kernel
theorem dX0_sellPrize_43 : decode cX0_sellPrize 43 = .ok (.aload 5, 2) := by decide +kernel
theorem dX0_sellPrize_45 : decode cX0_sellPrize 45 = .ok (.getfield 170, 3) := by decide +kernel
theorem dX0_sellPrize_48 : decode cX0_sellPrize 48 = .ok (.imul, 1) := by decide +kernel
theorem dX0_sellPrize_49 : decode cX0_sellPrize 49 = .ok (.if_icmp .ge 6, 3) := by decide +kernel
theorem dX0_sellPrize_52 : decode cX0_sellPrize 52 = .ok (.ldc 134, 2) := by decide +kernel
theorem dX0_sellPrize_54 : decode cX0_sellPrize 54 = .ok (.ireturn, 1) := by decide +kernel
theorem dX0_sellPrize_55 : decode cX0_sellPrize 55 = .ok (.aload 5, 2) := by decide +kernel
theorem dX0_sellPrize_57 : decode cX0_sellPrize 57 = .ok (.getfield 167, 3) := by decide +kernel
theorem dX0_sellPrize_60 : decode cX0_sellPrize 60 = .ok (.iload_n 3, 1) := by decide +kernel
theorem dX0_sellPrize_61 : decode cX0_sellPrize 61 = .ok (.if_icmp .ge 6, 3) := by decide +kernel
theorem dX0_sellPrize_64 : decode cX0_sellPrize 64 = .ok (.ldc 101, 2) := by decide +kernel
theorem dX0_sellPrize_66 : decode cX0_sellPrize 66 = .ok (.ireturn, 1) := by decide +kernel
theorem dX0_sellPrize_67 : decode cX0_sellPrize 67 = .ok (.aload 4, 2) := by decide +kernel
theorem dX0_sellPrize_69 : decode cX0_sellPrize 69 = .ok (.dup, 1) := by decide +kernel
theorem dX0_sellPrize_70 : decode cX0_sellPrize 70 = .ok (.getfield 110, 3) := by decide +kernel
theorem dX0_sellPrize_73 : decode cX0_sellPrize 73 = .ok (.iload_n 3, 1) := by decide +kernel
theorem dX0_sellPrize_74 : decode cX0_sellPrize 74 = .ok (.aload 5, 2) := by decide +kernel
theorem dX0_sellPrize_76 : decode cX0_sellPrize 76 = .ok (.getfield 170, 3) := by decide +kernel
theorem dX0_sellPrize_79 : decode cX0_sellPrize 79 = .ok (.imul, 1) := by decide +kernel
theorem dX0_sellPrize_80 : decode cX0_sellPrize 80 = .ok (.isub, 1) := by decide +kernel
theorem dX0_sellPrize_81 : decode cX0_sellPrize 81 = .ok (.putfield 110, 3) := by decide +kernel
theorem dX0_sellPrize_84 : decode cX0_sellPrize 84 = .ok (.aload 5, 2) := by decide +kernel
theorem dX0_sellPrize_86 : decode cX0_sellPrize 86 = .ok (.iload_n 3, 1) := by decide +kernel
theorem dX0_sellPrize_87 : decode cX0_sellPrize 87 = .ok (.invokevirtual 173, 3) := by decide +kernel
theorem dX0_sellPrize_90 : decode cX0_sellPrize 90 = .ok (.aload 4, 2) := by decide +kernel
theorem dX0_sellPrize_92 : decode cX0_sellPrize 92 = .ok (.getfield 110, 3) := by decide +kernel
theorem dX0_sellPrize_95 : decode cX0_sellPrize 95 = .ok (.ireturn, 1) := by decide +kernel
set_option maxRecDepth 20000 in
theorem ggX0_number_X0_keptWeighings : GoodIn wsX0_number wsX0_keptWeighings := goodIn_r _ [15, 16, 17, 29, 30, 31, 32, 33, 34, 35, 36, 37, 41, 42, 43, 44, 45, 46] (by decide +kernel) (by decide +kernel)
set_option maxRecDepth 20000 in
theorem gX0_number_X0_keptWeighings : GoodIn wsX0_number (wsV RX0 176 RX0 yX0_keptWeighings wsX0_keptWeighings) := goodIn_app (goodIn_of _ (by decide +kernel)) ggX0_number_X0_keptWeighings
set_option maxRecDepth 20000 in
theorem ggX0_number_X0_allPoints : GoodIn wsX0_number wsX0_allPoints := goodIn_r _ [21, 16, 22, 29, 30, 31, 32, 33, 34, 35, 36, 37, 41, 42, 43, 44, 45, 46] (by decide +kernel) (by decide +kernel)
set_option maxRecDepth 20000 in
theorem gX0_number_X0_allPoints : GoodIn wsX0_number (wsV RX0 180 RX0 yX0_allPoints wsX0_allPoints) := goodIn_app (goodIn_of _ (by decide +kernel)) ggX0_number_X0_allPoints
set_option maxRecDepth 20000 in
theorem ggX0_number_X0_allStocks : GoodIn wsX0_number wsX0_allStocks := goodIn_r _ [26, 27, 28, 29, 30, 31, 32, 33, 34, 35, 36, 37, 47, 48, 49, 50, 51, 52, 53] (by decide +kernel) (by decide +kernel)
set_option maxRecDepth 20000 in
theorem gX0_number_X0_allStocks : GoodIn wsX0_number (wsV RX0 183 RX0 yX0_allStocks wsX0_allStocks) := goodIn_app (goodIn_of _ (by decide +kernel)) ggX0_number_X0_allStocks
theorem dX0_number_0 : decode cX0_number 0 = .ok (.iload_n 1, 1) := by decide +kernel
theorem dX0_number_1 : decode cX0_number 1 = .ok (.tableswitch 123 0 10 #[59, 67, 75, 83, 88, 93, 98, 103, 108, 113, 118], 59) := by decide +kernel
theorem dX0_number_60 : decode cX0_number 60 = .ok (.aload_n 0, 1) := by decide +kernel
theorem dX0_number_61 : decode cX0_number 61 = .ok (.getfield 20, 3) := by decide +kernel
theorem dX0_number_64 : decode cX0_number 64 = .ok (.getfield 83, 3) := by decide +kernel
theorem dX0_number_67 : decode cX0_number 67 = .ok (.ireturn, 1) := by decide +kernel
theorem dX0_number_68 : decode cX0_number 68 = .ok (.aload_n 0, 1) := by decide +kernel
theorem dX0_number_69 : decode cX0_number 69 = .ok (.getfield 20, 3) := by decide +kernel
theorem dX0_number_72 : decode cX0_number 72 = .ok (.getfield 86, 3) := by decide +kernel
theorem dX0_number_75 : decode cX0_number 75 = .ok (.ireturn, 1) := by decide +kernel
theorem dX0_number_76 : decode cX0_number 76 = .ok (.aload_n 0, 1) := by decide +kernel
theorem dX0_number_77 : decode cX0_number 77 = .ok (.getfield 20, 3) := by decide +kernel
theorem dX0_number_80 : decode cX0_number 80 = .ok (.getfield 89, 3) := by decide +kernel
theorem dX0_number_83 : decode cX0_number 83 = .ok (.ireturn, 1) := by decide +kernel
theorem dX0_number_84 : decode cX0_number 84 = .ok (.aload_n 0, 1) := by decide +kernel
theorem dX0_number_85 : decode cX0_number 85 = .ok (.getfield 62, 3) := by decide +kernel
theorem dX0_number_88 : decode cX0_number 88 = .ok (.ireturn, 1) := by decide +kernel
theorem dX0_number_89 : decode cX0_number 89 = .ok (.aload_n 0, 1) := by decide +kernel
theorem dX0_number_90 : decode cX0_number 90 = .ok (.getfield 36, 3) := by decide +kernel
theorem dX0_number_93 : decode cX0_number 93 = .ok (.ireturn, 1) := by decide +kernel
theorem dX0_number_94 : decode cX0_number 94 = .ok (.aload_n 0, 1) := by decide +kernel
theorem dX0_number_95 : decode cX0_number 95 = .ok (.getfield 56, 3) := by decide +kernel
theorem dX0_number_98 : decode cX0_number 98 = .ok (.ireturn, 1) := by decide +kernel
theorem dX0_number_99 : decode cX0_number 99 = .ok (.aload_n 0, 1) := by decide +kernel
theorem dX0_number_100 : decode cX0_number 100 = .ok (.getfield 59, 3) := by decide +kernel
theorem dX0_number_103 : decode cX0_number 103 = .ok (.ireturn, 1) := by decide +kernel
theorem dX0_number_104 : decode cX0_number 104 = .ok (.aload_n 0, 1) := by decide +kernel
theorem dX0_number_105 : decode cX0_number 105 = .ok (.invokevirtual 176, 3) := by decide +kernel
theorem dX0_number_108 : decode cX0_number 108 = .ok (.ireturn, 1) := by decide +kernel
theorem dX0_number_109 : decode cX0_number 109 = .ok (.aload_n 0, 1) := by decide +kernel
theorem dX0_number_110 : decode cX0_number 110 = .ok (.getfield 65, 3) := by decide +kernel
theorem dX0_number_113 : decode cX0_number 113 = .ok (.ireturn, 1) := by decide +kernel
theorem dX0_number_114 : decode cX0_number 114 = .ok (.aload_n 0, 1) := by decide +kernel
theorem dX0_number_115 : decode cX0_number 115 = .ok (.invokevirtual 180, 3) := by decide +kernel
theorem dX0_number_118 : decode cX0_number 118 = .ok (.ireturn, 1) := by decide +kernel
theorem dX0_number_119 : decode cX0_number 119 = .ok (.aload_n 0, 1) := by decide +kernel
theorem dX0_number_120 : decode cX0_number 120 = .ok (.invokevirtual 183, 3) := by decide +kernel
theorem dX0_number_123 : decode cX0_number 123 = .ok (.ireturn, 1) := by decide +kernel
theorem dX0_number_124 : decode cX0_number 124 = .ok (.ldc 76, 2) := by decide +kernel
theorem dX0_number_126 : decode cX0_number 126 = .ok (.ireturn, 1) := by decide +kernel
theorem dX0_keptWeighings_0 : decode cX0_keptWeighings 0 = .ok (.iconst 0, 1) := by decide +kernel
theorem dX0_keptWeighings_1 : decode cX0_keptWeighings 1 = .ok (.istore_n 1, 1) := by decide +kernel
theorem dX0_keptWeighings_2 : decode cX0_keptWeighings 2 = .ok (.aload_n 0, 1) := by decide +kernel
theorem dX0_keptWeighings_3 : decode cX0_keptWeighings 3 = .ok (.getfield 26, 3) := by decide +kernel
theorem dX0_keptWeighings_6 : decode cX0_keptWeighings 6 = .ok (.astore_n 2, 1) := by decide +kernel
theorem dX0_keptWeighings_7 : decode cX0_keptWeighings 7 = .ok (.aload_n 2, 1) := by decide +kernel
theorem dX0_keptWeighings_8 : decode cX0_keptWeighings 8 = .ok (.arraylength, 1) := by decide +kernel
theorem dX0_keptWeighings_9 : decode cX0_keptWeighings 9 = .ok (.istore_n 3, 1) := by decide +kernel
theorem dX0_keptWeighings_10 : decode cX0_keptWeighings 10 = .ok (.iconst 0, 1) := by decide +kernel
theorem dX0_keptWeighings_11 : decode cX0_keptWeighings 11 = .ok (.istore 4, 2) := by decide +kernel
theorem dX0_keptWeighings_13 : decode cX0_keptWeighings 13 = .ok (.iload 4, 2) := by decide +kernel
theorem dX0_keptWeighings_15 : decode cX0_keptWeighings 15 = .ok (.iload_n 3, 1) := by decide +kernel
theorem dX0_keptWeighings_16 : decode cX0_keptWeighings 16 = .ok (.if_icmp .ge 26, 3) := by decide +kernel
theorem dX0_keptWeighings_19 : decode cX0_keptWeighings 19 = .ok (.aload_n 2, 1) := by decide +kernel
theorem dX0_keptWeighings_20 : decode cX0_keptWeighings 20 = .ok (.iload 4, 2) := by decide +kernel
theorem dX0_keptWeighings_22 : decode cX0_keptWeighings 22 = .ok (.aaload, 1) := by decide +kernel
theorem dX0_keptWeighings_23 : decode cX0_keptWeighings 23 = .ok (.astore 5, 2) := by decide +kernel
theorem dX0_keptWeighings_25 : decode cX0_keptWeighings 25 = .ok (.aload 5, 2) := by decide +kernel
theorem dX0_keptWeighings_27 : decode cX0_keptWeighings 27 = .ok (.getfield 127, 3) := by decide +kernel
theorem dX0_keptWeighings_30 : decode cX0_keptWeighings 30 = .ok (.ifCond .eq 6, 3) := by decide +kernel
theorem dX0_keptWeighings_33 : decode cX0_keptWeighings 33 = .ok (.iinc 1 1, 3) := by decide +kernel
theorem dX0_keptWeighings_36 : decode cX0_keptWeighings 36 = .ok (.iinc 4 1, 3) := by decide +kernel
theorem dX0_keptWeighings_39 : decode cX0_keptWeighings 39 = .ok (.goto (-26), 3) := by decide +kernel
theorem dX0_keptWeighings_42 : decode cX0_keptWeighings 42 = .ok (.iload_n 1, 1) := by decide +kernel
theorem dX0_keptWeighings_43 : decode cX0_keptWeighings 43 = .ok (.ireturn, 1) := by decide +kernel
theorem dX0_allPoints_0 : decode cX0_allPoints 0 = .ok (.iconst 0, 1) := by decide +kernel
theorem dX0_allPoints_1 : decode cX0_allPoints 1 = .ok (.istore_n 1, 1) := by decide +kernel
theorem dX0_allPoints_2 : decode cX0_allPoints 2 = .ok (.aload_n 0, 1) := by decide +kernel
theorem dX0_allPoints_3 : decode cX0_allPoints 3 = .ok (.getfield 26, 3) := by decide +kernel
theorem dX0_allPoints_6 : decode cX0_allPoints 6 = .ok (.astore_n 2, 1) := by decide +kernel
theorem dX0_allPoints_7 : decode cX0_allPoints 7 = .ok (.aload_n 2, 1) := by decide +kernel
theorem dX0_allPoints_8 : decode cX0_allPoints 8 = .ok (.arraylength, 1) := by decide +kernel
theorem dX0_allPoints_9 : decode cX0_allPoints 9 = .ok (.istore_n 3, 1) := by decide +kernel
theorem dX0_allPoints_10 : decode cX0_allPoints 10 = .ok (.iconst 0, 1) := by decide +kernel
theorem dX0_allPoints_11 : decode cX0_allPoints 11 = .ok (.istore 4, 2) := by decide +kernel
theorem dX0_allPoints_13 : decode cX0_allPoints 13 = .ok (.iload 4, 2) := by decide +kernel
theorem dX0_allPoints_15 : decode cX0_allPoints 15 = .ok (.iload_n 3, 1) := by decide +kernel
theorem dX0_allPoints_16 : decode cX0_allPoints 16 = .ok (.if_icmp .ge 23, 3) := by decide +kernel
theorem dX0_allPoints_19 : decode cX0_allPoints 19 = .ok (.aload_n 2, 1) := by decide +kernel
theorem dX0_allPoints_20 : decode cX0_allPoints 20 = .ok (.iload 4, 2) := by decide +kernel
theorem dX0_allPoints_22 : decode cX0_allPoints 22 = .ok (.aaload, 1) := by decide +kernel
theorem dX0_allPoints_23 : decode cX0_allPoints 23 = .ok (.astore 5, 2) := by decide +kernel
theorem dX0_allPoints_25 : decode cX0_allPoints 25 = .ok (.iload_n 1, 1) := by decide +kernel
theorem dX0_allPoints_26 : decode cX0_allPoints 26 = .ok (.aload 5, 2) := by decide +kernel
theorem dX0_allPoints_28 : decode cX0_allPoints 28 = .ok (.getfield 110, 3) := by decide +kernel
theorem dX0_allPoints_31 : decode cX0_allPoints 31 = .ok (.iadd, 1) := by decide +kernel
theorem dX0_allPoints_32 : decode cX0_allPoints 32 = .ok (.istore_n 1, 1) := by decide +kernel
theorem dX0_allPoints_33 : decode cX0_allPoints 33 = .ok (.iinc 4 1, 3) := by decide +kernel
theorem dX0_allPoints_36 : decode cX0_allPoints 36 = .ok (.goto (-23), 3) := by decide +kernel
theorem dX0_allPoints_39 : decode cX0_allPoints 39 = .ok (.iload_n 1, 1) := by decide +kernel
theorem dX0_allPoints_40 : decode cX0_allPoints 40 = .ok (.ireturn, 1) := by decide +kernel
theorem dX0_allStocks_0 : decode cX0_allStocks 0 = .ok (.iconst 0, 1) := by decide +kernel
theorem dX0_allStocks_1 : decode cX0_allStocks 1 = .ok (.istore_n 1, 1) := by decide +kernel
theorem dX0_allStocks_2 : decode cX0_allStocks 2 = .ok (.aload_n 0, 1) := by decide +kernel
theorem dX0_allStocks_3 : decode cX0_allStocks 3 = .ok (.getfield 32, 3) := by decide +kernel
theorem dX0_allStocks_6 : decode cX0_allStocks 6 = .ok (.astore_n 2, 1) := by decide +kernel
theorem dX0_allStocks_7 : decode cX0_allStocks 7 = .ok (.aload_n 2, 1) := by decide +kernel
theorem dX0_allStocks_8 : decode cX0_allStocks 8 = .ok (.arraylength, 1) := by decide +kernel
theorem dX0_allStocks_9 : decode cX0_allStocks 9 = .ok (.istore_n 3, 1) := by decide +kernel
theorem dX0_allStocks_10 : decode cX0_allStocks 10 = .ok (.iconst 0, 1) := by decide +kernel
theorem dX0_allStocks_11 : decode cX0_allStocks 11 = .ok (.istore 4, 2) := by decide +kernel
theorem dX0_allStocks_13 : decode cX0_allStocks 13 = .ok (.iload 4, 2) := by decide +kernel
theorem dX0_allStocks_15 : decode cX0_allStocks 15 = .ok (.iload_n 3, 1) := by decide +kernel
theorem dX0_allStocks_16 : decode cX0_allStocks 16 = .ok (.if_icmp .ge 23, 3) := by decide +kernel
theorem dX0_allStocks_19 : decode cX0_allStocks 19 = .ok (.aload_n 2, 1) := by decide +kernel
theorem dX0_allStocks_20 : decode cX0_allStocks 20 = .ok (.iload 4, 2) := by decide +kernel
theorem dX0_allStocks_22 : decode cX0_allStocks 22 = .ok (.aaload, 1) := by decide +kernel
theorem dX0_allStocks_23 : decode cX0_allStocks 23 = .ok (.astore 5, 2) := by decide +kernel
theorem dX0_allStocks_25 : decode cX0_allStocks 25 = .ok (.iload_n 1, 1) := by decide +kernel
theorem dX0_allStocks_26 : decode cX0_allStocks 26 = .ok (.aload 5, 2) := by decide +kernel
theorem dX0_allStocks_28 : decode cX0_allStocks 28 = .ok (.getfield 167, 3) := by decide +kernel
theorem dX0_allStocks_31 : decode cX0_allStocks 31 = .ok (.iadd, 1) := by decide +kernel
theorem dX0_allStocks_32 : decode cX0_allStocks 32 = .ok (.istore_n 1, 1) := by decide +kernel
theorem dX0_allStocks_33 : decode cX0_allStocks 33 = .ok (.iinc 4 1, 3) := by decide +kernel
theorem dX0_allStocks_36 : decode cX0_allStocks 36 = .ok (.goto (-23), 3) := by decide +kernel
theorem dX0_allStocks_39 : decode cX0_allStocks 39 = .ok (.iload_n 1, 1) := by decide +kernel
theorem dX0_allStocks_40 : decode cX0_allStocks 40 = .ok (.ireturn, 1) := by decide +kernel
set_option maxRecDepth 20000 in
theorem ggX0_given_X0_kindAt : GoodIn wsX0_given wsX0_kindAt := goodIn_r _ [13, 14, 15, 16, 17, 75, 76, 77, 78, 79, 80, 81, 82, 83] (by decide +kernel) (by decide +kernel)
set_option maxRecDepth 20000 in
theorem gX0_given_X0_kindAt : GoodIn wsX0_given (wsV RX0 72 RX0 yX0_kindAt wsX0_kindAt) := goodIn_app (goodIn_of _ (by decide +kernel)) ggX0_given_X0_kindAt
set_option maxRecDepth 20000 in
theorem ggX0_given_X7_guessFrom : GoodIn wsX0_given wsX7_guessFrom := goodIn_r _ [22, 23, 24, 25, 26, 27, 28, 29, 30, 31, 32, 33, 34, 21, 35, 36, 37, 38, 39, 40, 41, 42, 43, 44, 45, 46, 47, 48, 49, 16, 50, 51, 52, 53, 54, 55, 56, 57, 58, 59, 60, 61, 62, 63, 64, 65, 66, 67, 68, 69, 70, 71, 72, 73, 74, 90, 91, 92, 93, 94] (by decide +kernel) (by decide +kernel)
set_option maxRecDepth 20000 in
theorem gX0_given_X7_guessFrom : GoodIn wsX0_given (wsV RX0 116 RX7 yX7_guessFrom wsX7_guessFrom) := goodIn_app (goodIn_of _ (by decide +kernel)) ggX0_given_X7_guessFrom
theorem dX0_given_0 : decode cX0_given 0 = .ok (.ldc 159, 2) := by decide +kernel
theorem dX0_given_2 : decode cX0_given 2 = .ok (.istore_n 2, 1) := by decide +kernel
theorem dX0_given_3 : decode cX0_given 3 = .ok (.aload_n 0, 1) := by decide +kernel
theorem dX0_given_4 : decode cX0_given 4 = .ok (.getfield 26, 3) := by decide +kernel
theorem dX0_given_7 : decode cX0_given 7 = .ok (.astore_n 3, 1) := by decide +kernel
theorem dX0_given_8 : decode cX0_given 8 = .ok (.aload_n 3, 1) := by decide +kernel
theorem dX0_given_9 : decode cX0_given 9 = .ok (.arraylength, 1) := by decide +kernel
theorem dX0_given_10 : decode cX0_given 10 = .ok (.istore 4, 2) := by decide +kernel
theorem dX0_given_12 : decode cX0_given 12 = .ok (.iconst 0, 1) := by decide +kernel
theorem dX0_given_13 : decode cX0_given 13 = .ok (.istore 5, 2) := by decide +kernel
theorem dX0_given_15 : decode cX0_given 15 = .ok (.iload 5, 2) := by decide +kernel
theorem dX0_given_17 : decode cX0_given 17 = .ok (.iload 4, 2) := by decide +kernel
theorem dX0_given_19 : decode cX0_given 19 = .ok (.if_icmp .ge 82, 3) := by decide +kernel
theorem dX0_given_22 : decode cX0_given 22 = .ok (.aload_n 3, 1) := by decide +kernel
theorem dX0_given_23 : decode cX0_given 23 = .ok (.iload 5, 2) := by decide +kernel
theorem dX0_given_25 : decode cX0_given 25 = .ok (.aaload, 1) := by decide +kernel
theorem dX0_given_26 : decode cX0_given 26 = .ok (.astore 6, 2) := by decide +kernel
theorem dX0_given_28 : decode cX0_given 28 = .ok (.aload 6, 2) := by decide +kernel
theorem dX0_given_30 : decode cX0_given 30 = .ok (.getfield 127, 3) := by decide +kernel
theorem dX0_given_33 : decode cX0_given 33 = .ok (.ifCond .eq 62, 3) := by decide +kernel
theorem dX0_given_36 : decode cX0_given 36 = .ok (.aload_n 0, 1) := by decide +kernel
theorem dX0_given_37 : decode cX0_given 37 = .ok (.aload 6, 2) := by decide +kernel
theorem dX0_given_39 : decode cX0_given 39 = .ok (.getfield 135, 3) := by decide +kernel
theorem dX0_given_42 : decode cX0_given 42 = .ok (.invokevirtual 72, 3) := by decide +kernel
theorem dX0_given_45 : decode cX0_given 45 = .ok (.astore 7, 2) := by decide +kernel
theorem dX0_given_47 : decode cX0_given 47 = .ok (.aload 7, 2) := by decide +kernel
theorem dX0_given_49 : decode cX0_given 49 = .ok (.ifnonnull 8, 3) := by decide +kernel
theorem dX0_given_52 : decode cX0_given 52 = .ok (.ldc 186, 2) := by decide +kernel
theorem dX0_given_54 : decode cX0_given 54 = .ok (.goto 18, 3) := by decide +kernel
theorem dX0_given_57 : decode cX0_given 57 = .ok (.aload_n 0, 1) := by decide +kernel
theorem dX0_given_58 : decode cX0_given 58 = .ok (.getfield 20, 3) := by decide +kernel
theorem dX0_given_61 : decode cX0_given 61 = .ok (.aload 6, 2) := by decide +kernel
theorem dX0_given_63 : decode cX0_given 63 = .ok (.getfield 138, 3) := by decide +kernel
theorem dX0_given_66 : decode cX0_given 66 = .ok (.aload 7, 2) := by decide +kernel
theorem dX0_given_68 : decode cX0_given 68 = .ok (.iload_n 1, 1) := by decide +kernel
theorem dX0_given_69 : decode cX0_given 69 = .ok (.invokevirtual 116, 3) := by decide +kernel
theorem dX0_given_72 : decode cX0_given 72 = .ok (.istore 8, 2) := by decide +kernel
theorem dX0_given_74 : decode cX0_given 74 = .ok (.iload 8, 2) := by decide +kernel
theorem dX0_given_76 : decode cX0_given 76 = .ok (.ldc 186, 2) := by decide +kernel
theorem dX0_given_78 : decode cX0_given 78 = .ok (.if_icmp .ne 6, 3) := by decide +kernel
theorem dX0_given_81 : decode cX0_given 81 = .ok (.ldc 186, 2) := by decide +kernel
theorem dX0_given_83 : decode cX0_given 83 = .ok (.ireturn, 1) := by decide +kernel
theorem dX0_given_84 : decode cX0_given 84 = .ok (.iload_n 2, 1) := by decide +kernel
theorem dX0_given_85 : decode cX0_given 85 = .ok (.iload 8, 2) := by decide +kernel
theorem dX0_given_87 : decode cX0_given 87 = .ok (.aload 6, 2) := by decide +kernel
theorem dX0_given_89 : decode cX0_given 89 = .ok (.getfield 145, 3) := by decide +kernel
theorem dX0_given_92 : decode cX0_given 92 = .ok (.isub, 1) := by decide +kernel
theorem dX0_given_93 : decode cX0_given 93 = .ok (.iadd, 1) := by decide +kernel
theorem dX0_given_94 : decode cX0_given 94 = .ok (.istore_n 2, 1) := by decide +kernel
theorem dX0_given_95 : decode cX0_given 95 = .ok (.iinc 5 1, 3) := by decide +kernel
theorem dX0_given_98 : decode cX0_given 98 = .ok (.goto (-83), 3) := by decide +kernel
theorem dX0_given_101 : decode cX0_given 101 = .ok (.iload_n 2, 1) := by decide +kernel
theorem dX0_given_102 : decode cX0_given 102 = .ok (.ireturn, 1) := by decide +kernel
set_option maxRecDepth 20000 in
theorem ggX0_fairestRule_X0_given : GoodIn wsX0_fairestRule wsX0_given := goodIn_r _ [11, 2, 12, 13, 14, 1, 15, 16, 17, 18, 19, 20, 10, 21, 22, 23, 24, 25, 26, 27, 28, 29, 30, 31, 32, 33, 34, 5, 35, 36, 37, 38, 39, 40, 41, 42, 43, 44, 45, 46, 47, 48, 49, 50, 51, 52, 53, 54, 55, 56, 57, 58, 59, 60, 61, 62, 63, 64, 65, 66, 67, 68, 69, 70, 71, 72, 73, 74, 75, 76, 77, 78, 79, 80, 81, 82, 83, 84, 85, 86, 87, 88, 89, 90, 91, 92, 93, 94, 95, 96, 97, 98, 99, 100, 101] (by decide +kernel) (by decide +kernel)
set_option maxRecDepth 20000 in
theorem gX0_fairestRule_X0_given : GoodIn wsX0_fairestRule (wsV RX0 187 RX0 yX0_given wsX0_given) := goodIn_app (goodIn_of _ (by decide +kernel)) ggX0_fairestRule_X0_given
theorem dX0_fairestRule_0 : decode cX0_fairestRule 0 = .ok (.ldc 186, 2) := by decide +kernel
theorem dX0_fairestRule_2 : decode cX0_fairestRule 2 = .ok (.istore_n 1, 1) := by decide +kernel
theorem dX0_fairestRule_3 : decode cX0_fairestRule 3 = .ok (.iconst 0, 1) := by decide +kernel
theorem dX0_fairestRule_4 : decode cX0_fairestRule 4 = .ok (.istore_n 2, 1) := by decide +kernel
theorem dX0_fairestRule_5 : decode cX0_fairestRule 5 = .ok (.iconst 0, 1) := by decide +kernel
theorem dX0_fairestRule_6 : decode cX0_fairestRule 6 = .ok (.istore_n 3, 1) := by decide +kernel
theorem dX0_fairestRule_7 : decode cX0_fairestRule 7 = .ok (.iload_n 3, 1) := by decide +kernel
theorem dX0_fairestRule_8 : decode cX0_fairestRule 8 = .ok (.iconst 4, 1) := by decide +kernel
theorem dX0_fairestRule_9 : decode cX0_fairestRule 9 = .ok (.if_icmp .ge 53, 3) := by decide +kernel
theorem dX0_fairestRule_12 : decode cX0_fairestRule 12 = .ok (.aload_n 0, 1) := by decide +kernel
theorem dX0_fairestRule_13 : decode cX0_fairestRule 13 = .ok (.iload_n 3, 1) := by decide +kernel
theorem dX0_fairestRule_14 : decode cX0_fairestRule 14 = .ok (.invokevirtual 187, 3) := by decide +kernel
theorem dX0_fairestRule_17 : decode cX0_fairestRule 17 = .ok (.istore 4, 2) := by decide +kernel
theorem dX0_fairestRule_19 : decode cX0_fairestRule 19 = .ok (.iload 4, 2) := by decide +kernel
theorem dX0_fairestRule_21 : decode cX0_fairestRule 21 = .ok (.ldc 186, 2) := by decide +kernel
theorem dX0_fairestRule_23 : decode cX0_fairestRule 23 = .ok (.if_icmp .ne 6, 3) := by decide +kernel
theorem dX0_fairestRule_26 : decode cX0_fairestRule 26 = .ok (.ldc 186, 2) := by decide +kernel
theorem dX0_fairestRule_28 : decode cX0_fairestRule 28 = .ok (.ireturn, 1) := by decide +kernel
theorem dX0_fairestRule_29 : decode cX0_fairestRule 29 = .ok (.iload 4, 2) := by decide +kernel
theorem dX0_fairestRule_31 : decode cX0_fairestRule 31 = .ok (.ldc 159, 2) := by decide +kernel
theorem dX0_fairestRule_33 : decode cX0_fairestRule 33 = .ok (.isub, 1) := by decide +kernel
theorem dX0_fairestRule_34 : decode cX0_fairestRule 34 = .ok (.invokestatic 191, 3) := by decide +kernel
theorem dX0_fairestRule_37 : decode cX0_fairestRule 37 = .ok (.istore 5, 2) := by decide +kernel
theorem dX0_fairestRule_39 : decode cX0_fairestRule 39 = .ok (.iload_n 1, 1) := by decide +kernel
theorem dX0_fairestRule_40 : decode cX0_fairestRule 40 = .ok (.ldc 186, 2) := by decide +kernel
theorem dX0_fairestRule_42 : decode cX0_fairestRule 42 = .ok (.if_icmp .eq 9, 3) := by decide +kernel
theorem dX0_fairestRule_45 : decode cX0_fairestRule 45 = .ok (.iload 5, 2) := by decide +kernel
theorem dX0_fairestRule_47 : decode cX0_fairestRule 47 = .ok (.iload_n 2, 1) := by decide +kernel
theorem dX0_fairestRule_48 : decode cX0_fairestRule 48 = .ok (.if_icmp .ge 8, 3) := by decide +kernel
theorem dX0_fairestRule_51 : decode cX0_fairestRule 51 = .ok (.iload_n 3, 1) := by decide +kernel
theorem dX0_fairestRule_52 : decode cX0_fairestRule 52 = .ok (.istore_n 1, 1) := by decide +kernel
theorem dX0_fairestRule_53 : decode cX0_fairestRule 53 = .ok (.iload 5, 2) := by decide +kernel
theorem dX0_fairestRule_55 : decode cX0_fairestRule 55 = .ok (.istore_n 2, 1) := by decide +kernel
theorem dX0_fairestRule_56 : decode cX0_fairestRule 56 = .ok (.iinc 3 1, 3) := by decide +kernel
theorem dX0_fairestRule_59 : decode cX0_fairestRule 59 = .ok (.goto (-52), 3) := by decide +kernel
theorem dX0_fairestRule_62 : decode cX0_fairestRule 62 = .ok (.iload_n 1, 1) := by decide +kernel
theorem dX0_fairestRule_63 : decode cX0_fairestRule 63 = .ok (.ireturn, 1) := by decide +kernel
set_option maxRecDepth 20000 in
theorem ggX0_shopWith_X0_nextByPrice : GoodIn wsX0_shopWith wsX0_nextByPrice := goodIn_r _ [12, 13, 14, 15, 16, 11, 17, 2, 18, 19, 20, 21, 22, 23, 24, 25, 39, 40, 41, 42, 43, 44, 45, 46, 47, 32, 33, 34, 35, 36, 37, 38] (by decide +kernel) (by decide +kernel)
set_option maxRecDepth 20000 in
theorem gX0_shopWith_X0_nextByPrice : GoodIn wsX0_shopWith (wsV RX0 194 RX0 yX0_nextByPrice wsX0_nextByPrice) := goodIn_app (goodIn_of _ (by decide +kernel)) ggX0_shopWith_X0_nextByPrice
set_option maxRecDepth 20000 in
theorem ggX0_shopWith_X0_prizeAt : GoodIn wsX0_shopWith wsX0_prizeAt := goodIn_r _ [21, 13, 22, 23, 24, 25, 39, 40, 41, 42, 43, 44, 45, 46, 47] (by decide +kernel) (by decide +kernel)
set_option maxRecDepth 20000 in
theorem gX0_shopWith_X0_prizeAt : GoodIn wsX0_shopWith (wsV RX0 163 RX0 yX0_prizeAt wsX0_prizeAt) := goodIn_app (goodIn_of _ (by decide +kernel)) ggX0_shopWith_X0_prizeAt
set_option maxRecDepth 20000 in
theorem ggX0_shopWith_X9_quotient : GoodIn wsX0_shopWith wsX9_quotient := goodIn_r _ [27, 28, 29, 30, 31] (by decide +kernel) (by decide +kernel)
set_option maxRecDepth 20000 in
theorem gX0_shopWith_X9_quotient_n197 : GoodIn wsX0_shopWith (wsX9_quotient) := ggX0_shopWith_X9_quotient
theorem dX0_shopWith_0 : decode cX0_shopWith 0 = .ok (.iload_n 1, 1) := by decide +kernel
theorem dX0_shopWith_1 : decode cX0_shopWith 1 = .ok (.istore_n 3, 1) := by decide +kernel
theorem dX0_shopWith_2 : decode cX0_shopWith 2 = .ok (.iconst 0, 1) := by decide +kernel
theorem dX0_shopWith_3 : decode cX0_shopWith 3 = .ok (.istore 4, 2) := by decide +kernel
theorem dX0_shopWith_5 : decode cX0_shopWith 5 = .ok (.iconst 0, 1) := by decide +kernel
theorem dX0_shopWith_6 : decode cX0_shopWith 6 = .ok (.istore 5, 2) := by decide +kernel
theorem dX0_shopWith_8 : decode cX0_shopWith 8 = .ok (.iconst (-1), 1) := by decide +kernel
theorem dX0_shopWith_9 : decode cX0_shopWith 9 = .ok (.istore 6, 2) := by decide +kernel
theorem dX0_shopWith_11 : decode cX0_shopWith 11 = .ok (.iconst 0, 1) := by decide +kernel
theorem dX0_shopWith_12 : decode cX0_shopWith 12 = .ok (.istore 7, 2) := by decide +kernel
theorem dX0_shopWith_14 : decode cX0_shopWith 14 = .ok (.iload 7, 2) := by decide +kernel
theorem dX0_shopWith_16 : decode cX0_shopWith 16 = .ok (.bipush 6, 2) := by decide +kernel
theorem dX0_shopWith_18 : decode cX0_shopWith 18 = .ok (.if_icmp .ge 80, 3) := by decide +kernel
theorem dX0_shopWith_21 : decode cX0_shopWith 21 = .ok (.aload_n 0, 1) := by decide +kernel
theorem dX0_shopWith_22 : decode cX0_shopWith 22 = .ok (.iload 6, 2) := by decide +kernel
theorem dX0_shopWith_24 : decode cX0_shopWith 24 = .ok (.invokevirtual 194, 3) := by decide +kernel
theorem dX0_shopWith_27 : decode cX0_shopWith 27 = .ok (.istore 6, 2) := by decide +kernel
theorem dX0_shopWith_29 : decode cX0_shopWith 29 = .ok (.aload_n 0, 1) := by decide +kernel
theorem dX0_shopWith_30 : decode cX0_shopWith 30 = .ok (.iload 6, 2) := by decide +kernel
theorem dX0_shopWith_32 : decode cX0_shopWith 32 = .ok (.invokevirtual 163, 3) := by decide +kernel
theorem dX0_shopWith_35 : decode cX0_shopWith 35 = .ok (.astore 8, 2) := by decide +kernel
theorem dX0_shopWith_37 : decode cX0_shopWith 37 = .ok (.aload 8, 2) := by decide +kernel
theorem dX0_shopWith_39 : decode cX0_shopWith 39 = .ok (.ifnull 53, 3) := by decide +kernel
theorem dX0_shopWith_42 : decode cX0_shopWith 42 = .ok (.aload 8, 2) := by decide +kernel
theorem dX0_shopWith_44 : decode cX0_shopWith 44 = .ok (.getfield 167, 3) := by decide +kernel
theorem dX0_shopWith_47 : decode cX0_shopWith 47 = .ok (.iload_n 3, 1) := by decide +kernel
theorem dX0_shopWith_48 : decode cX0_shopWith 48 = .ok (.aload 8, 2) := by decide +kernel
theorem dX0_shopWith_50 : decode cX0_shopWith 50 = .ok (.getfield 170, 3) := by decide +kernel
theorem dX0_shopWith_53 : decode cX0_shopWith 53 = .ok (.invokestatic 197, 3) := by decide +kernel
theorem dX0_shopWith_56 : decode cX0_shopWith 56 = .ok (.invokestatic 92, 3) := by decide +kernel
theorem dX0_shopWith_59 : decode cX0_shopWith 59 = .ok (.istore 9, 2) := by decide +kernel
theorem dX0_shopWith_61 : decode cX0_shopWith 61 = .ok (.iload_n 3, 1) := by decide +kernel
theorem dX0_shopWith_62 : decode cX0_shopWith 62 = .ok (.iload 9, 2) := by decide +kernel
theorem dX0_shopWith_64 : decode cX0_shopWith 64 = .ok (.aload 8, 2) := by decide +kernel
theorem dX0_shopWith_66 : decode cX0_shopWith 66 = .ok (.getfield 170, 3) := by decide +kernel
theorem dX0_shopWith_69 : decode cX0_shopWith 69 = .ok (.imul, 1) := by decide +kernel
theorem dX0_shopWith_70 : decode cX0_shopWith 70 = .ok (.isub, 1) := by decide +kernel
theorem dX0_shopWith_71 : decode cX0_shopWith 71 = .ok (.istore_n 3, 1) := by decide +kernel
theorem dX0_shopWith_72 : decode cX0_shopWith 72 = .ok (.iload 4, 2) := by decide +kernel
theorem dX0_shopWith_74 : decode cX0_shopWith 74 = .ok (.iload 9, 2) := by decide +kernel
theorem dX0_shopWith_76 : decode cX0_shopWith 76 = .ok (.iadd, 1) := by decide +kernel
theorem dX0_shopWith_77 : decode cX0_shopWith 77 = .ok (.istore 4, 2) := by decide +kernel
theorem dX0_shopWith_79 : decode cX0_shopWith 79 = .ok (.iload 5, 2) := by decide +kernel
theorem dX0_shopWith_81 : decode cX0_shopWith 81 = .ok (.iload 9, 2) := by decide +kernel
theorem dX0_shopWith_83 : decode cX0_shopWith 83 = .ok (.aload 8, 2) := by decide +kernel
theorem dX0_shopWith_85 : decode cX0_shopWith 85 = .ok (.getfield 200, 3) := by decide +kernel
theorem dX0_shopWith_88 : decode cX0_shopWith 88 = .ok (.imul, 1) := by decide +kernel
theorem dX0_shopWith_89 : decode cX0_shopWith 89 = .ok (.iadd, 1) := by decide +kernel
theorem dX0_shopWith_90 : decode cX0_shopWith 90 = .ok (.istore 5, 2) := by decide +kernel
theorem dX0_shopWith_92 : decode cX0_shopWith 92 = .ok (.iinc 7 1, 3) := by decide +kernel
theorem dX0_shopWith_95 : decode cX0_shopWith 95 = .ok (.goto (-81), 3) := by decide +kernel
theorem dX0_shopWith_98 : decode cX0_shopWith 98 = .ok (.iload_n 2, 1) := by decide +kernel
theorem dX0_shopWith_99 : decode cX0_shopWith 99 = .ok (.lookupswitch 30 #[(0, 25), (1, 28)], 25) := by decide +kernel
theorem dX0_shopWith_124 : decode cX0_shopWith 124 = .ok (.iload 4, 2) := by decide +kernel
theorem dX0_shopWith_126 : decode cX0_shopWith 126 = .ok (.ireturn, 1) := by decide +kernel
theorem dX0_shopWith_127 : decode cX0_shopWith 127 = .ok (.iload_n 3, 1) := by decide +kernel
theorem dX0_shopWith_128 : decode cX0_shopWith 128 = .ok (.ireturn, 1) := by decide +kernel
theorem dX0_shopWith_129 : decode cX0_shopWith 129 = .ok (.iload 5, 2) := by decide +kernel
theorem dX0_shopWith_131 : decode cX0_shopWith 131 = .ok (.ireturn, 1) := by decide +kernel
set_option maxRecDepth 20000 in
theorem ggX0_nextByPrice_X0_isBehind : GoodIn wsX0_nextByPrice wsX0_isBehind := goodIn_r _ [6, 7, 8, 9, 10, 5, 11, 1, 12, 13, 14, 15, 25, 26, 27, 28, 29, 30, 31, 16, 17, 18, 19, 20, 21, 22, 23, 24] (by decide +kernel) (by decide +kernel)
set_option maxRecDepth 20000 in
theorem gX0_nextByPrice_X0_isBehind : GoodIn wsX0_nextByPrice (wsV RX0 201 RX0 yX0_isBehind wsX0_isBehind) := goodIn_app (goodIn_of _ (by decide +kernel)) ggX0_nextByPrice_X0_isBehind
theorem dX0_nextByPrice_0 : decode cX0_nextByPrice 0 = .ok (.aload_n 0, 1) := by decide +kernel
theorem dX0_nextByPrice_1 : decode cX0_nextByPrice 1 = .ok (.getfield 59, 3) := by decide +kernel
theorem dX0_nextByPrice_4 : decode cX0_nextByPrice 4 = .ok (.istore_n 2, 1) := by decide +kernel
theorem dX0_nextByPrice_5 : decode cX0_nextByPrice 5 = .ok (.iconst 0, 1) := by decide +kernel
theorem dX0_nextByPrice_6 : decode cX0_nextByPrice 6 = .ok (.istore_n 3, 1) := by decide +kernel
theorem dX0_nextByPrice_7 : decode cX0_nextByPrice 7 = .ok (.iload_n 3, 1) := by decide +kernel
theorem dX0_nextByPrice_8 : decode cX0_nextByPrice 8 = .ok (.bipush 6, 2) := by decide +kernel
theorem dX0_nextByPrice_10 : decode cX0_nextByPrice 10 = .ok (.if_icmp .ge 37, 3) := by decide +kernel
theorem dX0_nextByPrice_13 : decode cX0_nextByPrice 13 = .ok (.aload_n 0, 1) := by decide +kernel
theorem dX0_nextByPrice_14 : decode cX0_nextByPrice 14 = .ok (.iload_n 3, 1) := by decide +kernel
theorem dX0_nextByPrice_15 : decode cX0_nextByPrice 15 = .ok (.iload_n 1, 1) := by decide +kernel
theorem dX0_nextByPrice_16 : decode cX0_nextByPrice 16 = .ok (.invokevirtual 201, 3) := by decide +kernel
theorem dX0_nextByPrice_19 : decode cX0_nextByPrice 19 = .ok (.ifCond .eq 22, 3) := by decide +kernel
theorem dX0_nextByPrice_22 : decode cX0_nextByPrice 22 = .ok (.iload_n 2, 1) := by decide +kernel
theorem dX0_nextByPrice_23 : decode cX0_nextByPrice 23 = .ok (.aload_n 0, 1) := by decide +kernel
theorem dX0_nextByPrice_24 : decode cX0_nextByPrice 24 = .ok (.getfield 59, 3) := by decide +kernel
theorem dX0_nextByPrice_27 : decode cX0_nextByPrice 27 = .ok (.if_icmp .eq 12, 3) := by decide +kernel
theorem dX0_nextByPrice_30 : decode cX0_nextByPrice 30 = .ok (.aload_n 0, 1) := by decide +kernel
theorem dX0_nextByPrice_31 : decode cX0_nextByPrice 31 = .ok (.iload_n 2, 1) := by decide +kernel
theorem dX0_nextByPrice_32 : decode cX0_nextByPrice 32 = .ok (.iload_n 3, 1) := by decide +kernel
theorem dX0_nextByPrice_33 : decode cX0_nextByPrice 33 = .ok (.invokevirtual 201, 3) := by decide +kernel
theorem dX0_nextByPrice_36 : decode cX0_nextByPrice 36 = .ok (.ifCond .eq 5, 3) := by decide +kernel
theorem dX0_nextByPrice_39 : decode cX0_nextByPrice 39 = .ok (.iload_n 3, 1) := by decide +kernel
theorem dX0_nextByPrice_40 : decode cX0_nextByPrice 40 = .ok (.istore_n 2, 1) := by decide +kernel
theorem dX0_nextByPrice_41 : decode cX0_nextByPrice 41 = .ok (.iinc 3 1, 3) := by decide +kernel
theorem dX0_nextByPrice_44 : decode cX0_nextByPrice 44 = .ok (.goto (-37), 3) := by decide +kernel
theorem dX0_nextByPrice_47 : decode cX0_nextByPrice 47 = .ok (.iload_n 2, 1) := by decide +kernel
theorem dX0_nextByPrice_48 : decode cX0_nextByPrice 48 = .ok (.ireturn, 1) := by decide +kernel
set_option maxRecDepth 20000 in
theorem ggX0_isBehind_X0_prizeAt : GoodIn wsX0_isBehind wsX0_prizeAt := goodIn_r _ [6, 7, 8, 9, 10, 11, 19, 20, 21, 22, 23, 24, 25, 26, 27] (by decide +kernel) (by decide +kernel)
set_option maxRecDepth 20000 in
theorem gX0_isBehind_X0_prizeAt : GoodIn wsX0_isBehind (wsV RX0 163 RX0 yX0_prizeAt wsX0_prizeAt) := goodIn_app (goodIn_of _ (by decide +kernel)) ggX0_isBehind_X0_prizeAt
theorem dX0_isBehind_0 : decode cX0_isBehind 0 = .ok (.aload_n 0, 1) := by decide +kernel
theorem dX0_isBehind_1 : decode cX0_isBehind 1 = .ok (.iload_n 1, 1) := by decide +kernel
theorem dX0_isBehind_2 : decode cX0_isBehind 2 = .ok (.invokevirtual 163, 3) := by decide +kernel
theorem dX0_isBehind_5 : decode cX0_isBehind 5 = .ok (.astore_n 3, 1) := by decide +kernel
theorem dX0_isBehind_6 : decode cX0_isBehind 6 = .ok (.aload_n 0, 1) := by decide +kernel
theorem dX0_isBehind_7 : decode cX0_isBehind 7 = .ok (.iload_n 2, 1) := by decide +kernel
theorem dX0_isBehind_8 : decode cX0_isBehind 8 = .ok (.invokevirtual 163, 3) := by decide +kernel
theorem dX0_isBehind_11 : decode cX0_isBehind 11 = .ok (.astore 4, 2) := by decide +kernel
theorem dX0_isBehind_13 : decode cX0_isBehind 13 = .ok (.aload_n 3, 1) := by decide +kernel
theorem dX0_isBehind_14 : decode cX0_isBehind 14 = .ok (.ifnonnull 5, 3) := by decide +kernel
theorem dX0_isBehind_17 : decode cX0_isBehind 17 = .ok (.iconst 0, 1) := by decide +kernel
theorem dX0_isBehind_18 : decode cX0_isBehind 18 = .ok (.ireturn, 1) := by decide +kernel
theorem dX0_isBehind_19 : decode cX0_isBehind 19 = .ok (.aload 4, 2) := by decide +kernel
theorem dX0_isBehind_21 : decode cX0_isBehind 21 = .ok (.ifnonnull 13, 3) := by decide +kernel
theorem dX0_isBehind_24 : decode cX0_isBehind 24 = .ok (.iload_n 2, 1) := by decide +kernel
theorem dX0_isBehind_25 : decode cX0_isBehind 25 = .ok (.ifCond .ge 7, 3) := by decide +kernel
theorem dX0_isBehind_28 : decode cX0_isBehind 28 = .ok (.iconst 1, 1) := by decide +kernel
theorem dX0_isBehind_29 : decode cX0_isBehind 29 = .ok (.goto 4, 3) := by decide +kernel
theorem dX0_isBehind_32 : decode cX0_isBehind 32 = .ok (.iconst 0, 1) := by decide +kernel
theorem dX0_isBehind_33 : decode cX0_isBehind 33 = .ok (.ireturn, 1) := by decide +kernel
theorem dX0_isBehind_34 : decode cX0_isBehind 34 = .ok (.aload_n 3, 1) := by decide +kernel
theorem dX0_isBehind_35 : decode cX0_isBehind 35 = .ok (.getfield 170, 3) := by decide +kernel
theorem dX0_isBehind_38 : decode cX0_isBehind 38 = .ok (.aload 4, 2) := by decide +kernel
theorem dX0_isBehind_40 : decode cX0_isBehind 40 = .ok (.getfield 170, 3) := by decide +kernel
theorem dX0_isBehind_43 : decode cX0_isBehind 43 = .ok (.if_icmp .gt 20, 3) := by decide +kernel
theorem dX0_isBehind_46 : decode cX0_isBehind 46 = .ok (.aload_n 3, 1) := by decide +kernel
theorem dX0_isBehind_47 : decode cX0_isBehind 47 = .ok (.getfield 170, 3) := by decide +kernel
theorem dX0_isBehind_50 : decode cX0_isBehind 50 = .ok (.aload 4, 2) := by decide +kernel
theorem dX0_isBehind_52 : decode cX0_isBehind 52 = .ok (.getfield 170, 3) := by decide +kernel
theorem dX0_isBehind_55 : decode cX0_isBehind 55 = .ok (.if_icmp .ne 12, 3) := by decide +kernel
theorem dX0_isBehind_58 : decode cX0_isBehind 58 = .ok (.iload_n 1, 1) := by decide +kernel
theorem dX0_isBehind_59 : decode cX0_isBehind 59 = .ok (.iload_n 2, 1) := by decide +kernel
theorem dX0_isBehind_60 : decode cX0_isBehind 60 = .ok (.if_icmp .le 7, 3) := by decide +kernel
theorem dX0_isBehind_63 : decode cX0_isBehind 63 = .ok (.iconst 1, 1) := by decide +kernel
theorem dX0_isBehind_64 : decode cX0_isBehind 64 = .ok (.goto 4, 3) := by decide +kernel
theorem dX0_isBehind_67 : decode cX0_isBehind 67 = .ok (.iconst 0, 1) := by decide +kernel
theorem dX0_isBehind_68 : decode cX0_isBehind 68 = .ok (.ireturn, 1) := by decide +kernel
theorem dX1_init_0 : decode cX1_init 0 = .ok (.aload_n 0, 1) := by decide +kernel
theorem dX1_init_1 : decode cX1_init 1 = .ok (.invokespecial 3, 3) := by decide +kernel
theorem dX1_init_4 : decode cX1_init 4 = .ok (.return_, 1) := by decide +kernel
theorem dX1_copyFrom_0 : decode cX1_copyFrom 0 = .ok (.aload_n 0, 1) := by decide +kernel
theorem dX1_copyFrom_1 : decode cX1_copyFrom 1 = .ok (.aload_n 1, 1) := by decide +kernel
theorem dX1_copyFrom_2 : decode cX1_copyFrom 2 = .ok (.getfield 9, 3) := by decide +kernel
theorem dX1_copyFrom_5 : decode cX1_copyFrom 5 = .ok (.putfield 9, 3) := by decide +kernel
theorem dX1_copyFrom_8 : decode cX1_copyFrom 8 = .ok (.aload_n 0, 1) := by decide +kernel
theorem dX1_copyFrom_9 : decode cX1_copyFrom 9 = .ok (.aload_n 1, 1) := by decide +kernel
theorem dX1_copyFrom_10 : decode cX1_copyFrom 10 = .ok (.getfield 15, 3) := by decide +kernel
theorem dX1_copyFrom_13 : decode cX1_copyFrom 13 = .ok (.putfield 15, 3) := by decide +kernel
theorem dX1_copyFrom_16 : decode cX1_copyFrom 16 = .ok (.aload_n 0, 1) := by decide +kernel
theorem dX1_copyFrom_17 : decode cX1_copyFrom 17 = .ok (.aload_n 1, 1) := by decide +kernel
theorem dX1_copyFrom_18 : decode cX1_copyFrom 18 = .ok (.getfield 19, 3) := by decide +kernel
theorem dX1_copyFrom_21 : decode cX1_copyFrom 21 = .ok (.putfield 19, 3) := by decide +kernel
theorem dX1_copyFrom_24 : decode cX1_copyFrom 24 = .ok (.aload_n 0, 1) := by decide +kernel
theorem dX1_copyFrom_25 : decode cX1_copyFrom 25 = .ok (.aload_n 1, 1) := by decide +kernel
theorem dX1_copyFrom_26 : decode cX1_copyFrom 26 = .ok (.getfield 22, 3) := by decide +kernel
theorem dX1_copyFrom_29 : decode cX1_copyFrom 29 = .ok (.putfield 22, 3) := by decide +kernel
theorem dX1_copyFrom_32 : decode cX1_copyFrom 32 = .ok (.aload_n 0, 1) := by decide +kernel
theorem dX1_copyFrom_33 : decode cX1_copyFrom 33 = .ok (.aload_n 1, 1) := by decide +kernel
theorem dX1_copyFrom_34 : decode cX1_copyFrom 34 = .ok (.getfield 25, 3) := by decide +kernel
theorem dX1_copyFrom_37 : decode cX1_copyFrom 37 = .ok (.putfield 25, 3) := by decide +kernel
theorem dX1_copyFrom_40 : decode cX1_copyFrom 40 = .ok (.aload_n 0, 1) := by decide +kernel
theorem dX1_copyFrom_41 : decode cX1_copyFrom 41 = .ok (.aload_n 1, 1) := by decide +kernel
theorem dX1_copyFrom_42 : decode cX1_copyFrom 42 = .ok (.getfield 28, 3) := by decide +kernel
theorem dX1_copyFrom_45 : decode cX1_copyFrom 45 = .ok (.putfield 28, 3) := by decide +kernel
theorem dX1_copyFrom_48 : decode cX1_copyFrom 48 = .ok (.return_, 1) := by decide +kernel
theorem dX1_begin_0 : decode cX1_begin 0 = .ok (.aload_n 0, 1) := by decide +kernel
theorem dX1_begin_1 : decode cX1_begin 1 = .ok (.iload_n 1, 1) := by decide +kernel
theorem dX1_begin_2 : decode cX1_begin 2 = .ok (.putfield 9, 3) := by decide +kernel
theorem dX1_begin_5 : decode cX1_begin 5 = .ok (.aload_n 0, 1) := by decide +kernel
theorem dX1_begin_6 : decode cX1_begin 6 = .ok (.iconst 0, 1) := by decide +kernel
theorem dX1_begin_7 : decode cX1_begin 7 = .ok (.putfield 15, 3) := by decide +kernel
theorem dX1_begin_10 : decode cX1_begin 10 = .ok (.return_, 1) := by decide +kernel
theorem dX1_keep_0 : decode cX1_keep 0 = .ok (.aload_n 0, 1) := by decide +kernel
theorem dX1_keep_1 : decode cX1_keep 1 = .ok (.iconst 1, 1) := by decide +kernel
theorem dX1_keep_2 : decode cX1_keep 2 = .ok (.putfield 15, 3) := by decide +kernel
theorem dX1_keep_5 : decode cX1_keep 5 = .ok (.aload_n 0, 1) := by decide +kernel
theorem dX1_keep_6 : decode cX1_keep 6 = .ok (.iload_n 1, 1) := by decide +kernel
theorem dX1_keep_7 : decode cX1_keep 7 = .ok (.putfield 19, 3) := by decide +kernel
theorem dX1_keep_10 : decode cX1_keep 10 = .ok (.aload_n 0, 1) := by decide +kernel
theorem dX1_keep_11 : decode cX1_keep 11 = .ok (.iload_n 2, 1) := by decide +kernel
theorem dX1_keep_12 : decode cX1_keep 12 = .ok (.putfield 22, 3) := by decide +kernel
theorem dX1_keep_15 : decode cX1_keep 15 = .ok (.aload_n 0, 1) := by decide +kernel
theorem dX1_keep_16 : decode cX1_keep 16 = .ok (.iload_n 3, 1) := by decide +kernel
theorem dX1_keep_17 : decode cX1_keep 17 = .ok (.putfield 25, 3) := by decide +kernel
theorem dX1_keep_20 : decode cX1_keep 20 = .ok (.aload_n 0, 1) := by decide +kernel
theorem dX1_keep_21 : decode cX1_keep 21 = .ok (.iload 4, 2) := by decide +kernel
theorem dX1_keep_23 : decode cX1_keep 23 = .ok (.putfield 28, 3) := by decide +kernel
theorem dX1_keep_26 : decode cX1_keep 26 = .ok (.return_, 1) := by decide +kernel
theorem dX1_isNearer_0 : decode cX1_isNearer 0 = .ok (.iload_n 1, 1) := by decide +kernel
theorem dX1_isNearer_1 : decode cX1_isNearer 1 = .ok (.aload_n 0, 1) := by decide +kernel
theorem dX1_isNearer_2 : decode cX1_isNearer 2 = .ok (.getfield 22, 3) := by decide +kernel
theorem dX1_isNearer_5 : decode cX1_isNearer 5 = .ok (.isub, 1) := by decide +kernel
theorem dX1_isNearer_6 : decode cX1_isNearer 6 = .ok (.invokestatic 31, 3) := by decide +kernel
theorem dX1_isNearer_9 : decode cX1_isNearer 9 = .ok (.aload_n 0, 1) := by decide +kernel
theorem dX1_isNearer_10 : decode cX1_isNearer 10 = .ok (.getfield 28, 3) := by decide +kernel
theorem dX1_isNearer_13 : decode cX1_isNearer 13 = .ok (.aload_n 0, 1) := by decide +kernel
theorem dX1_isNearer_14 : decode cX1_isNearer 14 = .ok (.getfield 22, 3) := by decide +kernel
theorem dX1_isNearer_17 : decode cX1_isNearer 17 = .ok (.isub, 1) := by decide +kernel
theorem dX1_isNearer_18 : decode cX1_isNearer 18 = .ok (.invokestatic 31, 3) := by decide +kernel
theorem dX1_isNearer_21 : decode cX1_isNearer 21 = .ok (.if_icmp .ge 7, 3) := by decide +kernel
theorem dX1_isNearer_24 : decode cX1_isNearer 24 = .ok (.iconst 1, 1) := by decide +kernel
theorem dX1_isNearer_25 : decode cX1_isNearer 25 = .ok (.goto 4, 3) := by decide +kernel
theorem dX1_isNearer_28 : decode cX1_isNearer 28 = .ok (.iconst 0, 1) := by decide +kernel
theorem dX1_isNearer_29 : decode cX1_isNearer 29 = .ok (.ireturn, 1) := by decide +kernel
theorem dX1_gain_0 : decode cX1_gain 0 = .ok (.aload_n 0, 1) := by decide +kernel
theorem dX1_gain_1 : decode cX1_gain 1 = .ok (.iconst 0, 1) := by decide +kernel
theorem dX1_gain_2 : decode cX1_gain 2 = .ok (.aload_n 0, 1) := by decide +kernel
theorem dX1_gain_3 : decode cX1_gain 3 = .ok (.getfield 9, 3) := by decide +kernel
theorem dX1_gain_6 : decode cX1_gain 6 = .ok (.iload_n 1, 1) := by decide +kernel
theorem dX1_gain_7 : decode cX1_gain 7 = .ok (.iadd, 1) := by decide +kernel
theorem dX1_gain_8 : decode cX1_gain 8 = .ok (.invokestatic 37, 3) := by decide +kernel
theorem dX1_gain_11 : decode cX1_gain 11 = .ok (.putfield 9, 3) := by decide +kernel
theorem dX1_gain_14 : decode cX1_gain 14 = .ok (.return_, 1) := by decide +kernel
set_option maxRecDepth 20000 in
theorem ggX1_part_X9_within : GoodIn wsX1_part wsX9_within := goodIn_r _ [11] (by decide +kernel) (by decide +kernel)
set_option maxRecDepth 20000 in
theorem gX1_part_X9_within_n41 : GoodIn wsX1_part (wsX9_within) := ggX1_part_X9_within
theorem dX1_part_0 : decode cX1_part 0 = .ok (.iload_n 1, 1) := by decide +kernel
theorem dX1_part_1 : decode cX1_part 1 = .ok (.iconst 0, 1) := by decide +kernel
theorem dX1_part_2 : decode cX1_part 2 = .ok (.iconst 4, 1) := by decide +kernel
theorem dX1_part_3 : decode cX1_part 3 = .ok (.invokestatic 41, 3) := by decide +kernel
theorem dX1_part_6 : decode cX1_part 6 = .ok (.ifCond .ne 6, 3) := by decide +kernel
theorem dX1_part_9 : decode cX1_part 9 = .ok (.ldc 45, 2) := by decide +kernel
theorem dX1_part_11 : decode cX1_part 11 = .ok (.ireturn, 1) := by decide +kernel
theorem dX1_part_12 : decode cX1_part 12 = .ok (.iload_n 1, 1) := by decide +kernel
theorem dX1_part_13 : decode cX1_part 13 = .ok (.ifCond .ne 8, 3) := by decide +kernel
theorem dX1_part_16 : decode cX1_part 16 = .ok (.aload_n 0, 1) := by decide +kernel
theorem dX1_part_17 : decode cX1_part 17 = .ok (.getfield 9, 3) := by decide +kernel
theorem dX1_part_20 : decode cX1_part 20 = .ok (.ireturn, 1) := by decide +kernel
theorem dX1_part_21 : decode cX1_part 21 = .ok (.aload_n 0, 1) := by decide +kernel
theorem dX1_part_22 : decode cX1_part 22 = .ok (.getfield 15, 3) := by decide +kernel
theorem dX1_part_25 : decode cX1_part 25 = .ok (.ifCond .ne 6, 3) := by decide +kernel
theorem dX1_part_28 : decode cX1_part 28 = .ok (.ldc 46, 2) := by decide +kernel
theorem dX1_part_30 : decode cX1_part 30 = .ok (.ireturn, 1) := by decide +kernel
theorem dX1_part_31 : decode cX1_part 31 = .ok (.iload_n 1, 1) := by decide +kernel
theorem dX1_part_32 : decode cX1_part 32 = .ok (.tableswitch 43 1 3 #[28, 33, 38], 28) := by decide +kernel
theorem dX1_part_60 : decode cX1_part 60 = .ok (.aload_n 0, 1) := by decide +kernel
theorem dX1_part_61 : decode cX1_part 61 = .ok (.getfield 19, 3) := by decide +kernel
theorem dX1_part_64 : decode cX1_part 64 = .ok (.ireturn, 1) := by decide +kernel
theorem dX1_part_65 : decode cX1_part 65 = .ok (.aload_n 0, 1) := by decide +kernel
theorem dX1_part_66 : decode cX1_part 66 = .ok (.getfield 22, 3) := by decide +kernel
theorem dX1_part_69 : decode cX1_part 69 = .ok (.ireturn, 1) := by decide +kernel
theorem dX1_part_70 : decode cX1_part 70 = .ok (.aload_n 0, 1) := by decide +kernel
theorem dX1_part_71 : decode cX1_part 71 = .ok (.getfield 25, 3) := by decide +kernel
theorem dX1_part_74 : decode cX1_part 74 = .ok (.ireturn, 1) := by decide +kernel
theorem dX1_part_75 : decode cX1_part 75 = .ok (.aload_n 0, 1) := by decide +kernel
theorem dX1_part_76 : decode cX1_part 76 = .ok (.getfield 28, 3) := by decide +kernel
theorem dX1_part_79 : decode cX1_part 79 = .ok (.ireturn, 1) := by decide +kernel
theorem dX2_init_0 : decode cX2_init 0 = .ok (.aload_n 0, 1) := by decide +kernel
theorem dX2_init_1 : decode cX2_init 1 = .ok (.invokespecial 3, 3) := by decide +kernel
theorem dX2_init_4 : decode cX2_init 4 = .ok (.return_, 1) := by decide +kernel
theorem dX2_note_0 : decode cX2_note 0 = .ok (.aload_n 0, 1) := by decide +kernel
theorem dX2_note_1 : decode cX2_note 1 = .ok (.iload_n 1, 1) := by decide +kernel
theorem dX2_note_2 : decode cX2_note 2 = .ok (.putfield 9, 3) := by decide +kernel
theorem dX2_note_5 : decode cX2_note 5 = .ok (.aload_n 0, 1) := by decide +kernel
theorem dX2_note_6 : decode cX2_note 6 = .ok (.iload_n 2, 1) := by decide +kernel
theorem dX2_note_7 : decode cX2_note 7 = .ok (.putfield 15, 3) := by decide +kernel
theorem dX2_note_10 : decode cX2_note 10 = .ok (.aload_n 0, 1) := by decide +kernel
theorem dX2_note_11 : decode cX2_note 11 = .ok (.iload_n 3, 1) := by decide +kernel
theorem dX2_note_12 : decode cX2_note 12 = .ok (.putfield 18, 3) := by decide +kernel
theorem dX2_note_15 : decode cX2_note 15 = .ok (.iload_n 2, 1) := by decide +kernel
theorem dX2_note_16 : decode cX2_note 16 = .ok (.ldc 21, 2) := by decide +kernel
theorem dX2_note_18 : decode cX2_note 18 = .ok (.if_icmp .ne 11, 3) := by decide +kernel
theorem dX2_note_21 : decode cX2_note 21 = .ok (.aload_n 0, 1) := by decide +kernel
theorem dX2_note_22 : decode cX2_note 22 = .ok (.iconst 1, 1) := by decide +kernel
theorem dX2_note_23 : decode cX2_note 23 = .ok (.putfield 22, 3) := by decide +kernel
theorem dX2_note_26 : decode cX2_note 26 = .ok (.goto 18, 3) := by decide +kernel
theorem dX2_note_29 : decode cX2_note 29 = .ok (.aload_n 0, 1) := by decide +kernel
theorem dX2_note_30 : decode cX2_note 30 = .ok (.iload_n 2, 1) := by decide +kernel
theorem dX2_note_31 : decode cX2_note 31 = .ok (.ldc 25, 2) := by decide +kernel
theorem dX2_note_33 : decode cX2_note 33 = .ok (.if_icmp .ne 7, 3) := by decide +kernel
theorem dX2_note_36 : decode cX2_note 36 = .ok (.iconst 2, 1) := by decide +kernel
theorem dX2_note_37 : decode cX2_note 37 = .ok (.goto 4, 3) := by decide +kernel
theorem dX2_note_40 : decode cX2_note 40 = .ok (.iconst 3, 1) := by decide +kernel
theorem dX2_note_41 : decode cX2_note 41 = .ok (.putfield 22, 3) := by decide +kernel
theorem dX2_note_44 : decode cX2_note 44 = .ok (.return_, 1) := by decide +kernel
set_option maxRecDepth 20000 in
theorem ggX2_part_X9_within : GoodIn wsX2_part wsX9_within := goodIn_r _ [9] (by decide +kernel) (by decide +kernel)
set_option maxRecDepth 20000 in
theorem gX2_part_X9_within_n26 : GoodIn wsX2_part (wsX9_within) := ggX2_part_X9_within
theorem dX2_part_0 : decode cX2_part 0 = .ok (.iload_n 1, 1) := by decide +kernel
theorem dX2_part_1 : decode cX2_part 1 = .ok (.iconst 0, 1) := by decide +kernel
theorem dX2_part_2 : decode cX2_part 2 = .ok (.iconst 4, 1) := by decide +kernel
theorem dX2_part_3 : decode cX2_part 3 = .ok (.invokestatic 26, 3) := by decide +kernel
theorem dX2_part_6 : decode cX2_part 6 = .ok (.ifCond .ne 6, 3) := by decide +kernel
theorem dX2_part_9 : decode cX2_part 9 = .ok (.ldc 25, 2) := by decide +kernel
theorem dX2_part_11 : decode cX2_part 11 = .ok (.ireturn, 1) := by decide +kernel
theorem dX2_part_12 : decode cX2_part 12 = .ok (.aload_n 0, 1) := by decide +kernel
theorem dX2_part_13 : decode cX2_part 13 = .ok (.getfield 22, 3) := by decide +kernel
theorem dX2_part_16 : decode cX2_part 16 = .ok (.ifCond .ne 6, 3) := by decide +kernel
theorem dX2_part_19 : decode cX2_part 19 = .ok (.ldc 21, 2) := by decide +kernel
theorem dX2_part_21 : decode cX2_part 21 = .ok (.ireturn, 1) := by decide +kernel
theorem dX2_part_22 : decode cX2_part 22 = .ok (.iload_n 1, 1) := by decide +kernel
theorem dX2_part_23 : decode cX2_part 23 = .ok (.tableswitch 58 0 3 #[29, 34, 39, 53], 29) := by decide +kernel
theorem dX2_part_52 : decode cX2_part 52 = .ok (.aload_n 0, 1) := by decide +kernel
theorem dX2_part_53 : decode cX2_part 53 = .ok (.getfield 22, 3) := by decide +kernel
theorem dX2_part_56 : decode cX2_part 56 = .ok (.ireturn, 1) := by decide +kernel
theorem dX2_part_57 : decode cX2_part 57 = .ok (.aload_n 0, 1) := by decide +kernel
theorem dX2_part_58 : decode cX2_part 58 = .ok (.getfield 9, 3) := by decide +kernel
theorem dX2_part_61 : decode cX2_part 61 = .ok (.ireturn, 1) := by decide +kernel
theorem dX2_part_62 : decode cX2_part 62 = .ok (.aload_n 0, 1) := by decide +kernel
theorem dX2_part_63 : decode cX2_part 63 = .ok (.getfield 22, 3) := by decide +kernel
theorem dX2_part_66 : decode cX2_part 66 = .ok (.iconst 1, 1) := by decide +kernel
theorem dX2_part_67 : decode cX2_part 67 = .ok (.if_icmp .ne 7, 3) := by decide +kernel
theorem dX2_part_70 : decode cX2_part 70 = .ok (.iconst 1, 1) := by decide +kernel
theorem dX2_part_71 : decode cX2_part 71 = .ok (.goto 4, 3) := by decide +kernel
theorem dX2_part_74 : decode cX2_part 74 = .ok (.iconst 2, 1) := by decide +kernel
theorem dX2_part_75 : decode cX2_part 75 = .ok (.ireturn, 1) := by decide +kernel
theorem dX2_part_76 : decode cX2_part 76 = .ok (.aload_n 0, 1) := by decide +kernel
theorem dX2_part_77 : decode cX2_part 77 = .ok (.getfield 15, 3) := by decide +kernel
theorem dX2_part_80 : decode cX2_part 80 = .ok (.ireturn, 1) := by decide +kernel
theorem dX2_part_81 : decode cX2_part 81 = .ok (.aload_n 0, 1) := by decide +kernel
theorem dX2_part_82 : decode cX2_part 82 = .ok (.getfield 18, 3) := by decide +kernel
theorem dX2_part_85 : decode cX2_part 85 = .ok (.ireturn, 1) := by decide +kernel
set_option maxRecDepth 20000 in
theorem ggX3_init_X8_init : GoodIn wsX3_init wsX8_init := goodIn_r _ [12, 13, 2, 3, 14, 15, 16, 17, 18, 19, 20, 21, 22, 23, 24, 25, 26, 27, 28, 29, 30, 31, 32, 33, 34, 35, 36, 37, 38, 39, 40, 41, 42, 43, 44, 45, 46, 47, 48, 49, 50, 51, 52, 53, 54, 55, 56, 57, 65, 66, 67, 68, 69, 70, 71, 72, 73, 62, 63, 64, 74, 75, 76, 77, 78, 79, 80, 81, 82, 83, 84, 85, 86, 87, 88, 89, 90, 91] (by decide +kernel) (by decide +kernel)
set_option maxRecDepth 20000 in
theorem gX3_init_X8_init : GoodIn wsX3_init (wsX8_init) := ggX3_init_X8_init
theorem dX3_init_0 : decode cX3_init 0 = .ok (.aload_n 0, 1) := by decide +kernel
theorem dX3_init_1 : decode cX3_init 1 = .ok (.invokespecial 3, 3) := by decide +kernel
theorem dX3_init_4 : decode cX3_init 4 = .ok (.aload_n 0, 1) := by decide +kernel
theorem dX3_init_5 : decode cX3_init 5 = .ok (.iconst 5, 1) := by decide +kernel
theorem dX3_init_6 : decode cX3_init 6 = .ok (.anewarray 9, 3) := by decide +kernel
theorem dX3_init_9 : decode cX3_init 9 = .ok (.putfield 11, 3) := by decide +kernel
theorem dX3_init_12 : decode cX3_init 12 = .ok (.aload_n 0, 1) := by decide +kernel
theorem dX3_init_13 : decode cX3_init 13 = .ok (.new 9, 3) := by decide +kernel
theorem dX3_init_16 : decode cX3_init 16 = .ok (.dup, 1) := by decide +kernel
theorem dX3_init_17 : decode cX3_init 17 = .ok (.invokespecial 17, 3) := by decide +kernel
theorem dX3_init_20 : decode cX3_init 20 = .ok (.putfield 18, 3) := by decide +kernel
theorem dX3_init_23 : decode cX3_init 23 = .ok (.aload_n 0, 1) := by decide +kernel
theorem dX3_init_24 : decode cX3_init 24 = .ok (.new 9, 3) := by decide +kernel
theorem dX3_init_27 : decode cX3_init 27 = .ok (.dup, 1) := by decide +kernel
theorem dX3_init_28 : decode cX3_init 28 = .ok (.invokespecial 17, 3) := by decide +kernel
theorem dX3_init_31 : decode cX3_init 31 = .ok (.putfield 22, 3) := by decide +kernel
theorem dX3_init_34 : decode cX3_init 34 = .ok (.iconst 0, 1) := by decide +kernel
theorem dX3_init_35 : decode cX3_init 35 = .ok (.istore_n 1, 1) := by decide +kernel
theorem dX3_init_36 : decode cX3_init 36 = .ok (.iload_n 1, 1) := by decide +kernel
theorem dX3_init_37 : decode cX3_init 37 = .ok (.iconst 5, 1) := by decide +kernel
theorem dX3_init_38 : decode cX3_init 38 = .ok (.if_icmp .ge 22, 3) := by decide +kernel
theorem dX3_init_41 : decode cX3_init 41 = .ok (.aload_n 0, 1) := by decide +kernel
theorem dX3_init_42 : decode cX3_init 42 = .ok (.getfield 11, 3) := by decide +kernel
theorem dX3_init_45 : decode cX3_init 45 = .ok (.iload_n 1, 1) := by decide +kernel
theorem dX3_init_46 : decode cX3_init 46 = .ok (.new 9, 3) := by decide +kernel
theorem dX3_init_49 : decode cX3_init 49 = .ok (.dup, 1) := by decide +kernel
theorem dX3_init_50 : decode cX3_init 50 = .ok (.invokespecial 17, 3) := by decide +kernel
theorem dX3_init_53 : decode cX3_init 53 = .ok (.aastore, 1) := by decide +kernel
theorem dX3_init_54 : decode cX3_init 54 = .ok (.iinc 1 1, 3) := by decide +kernel
theorem dX3_init_57 : decode cX3_init 57 = .ok (.goto (-21), 3) := by decide +kernel
theorem dX3_init_60 : decode cX3_init 60 = .ok (.return_, 1) := by decide +kernel
set_option maxRecDepth 20000 in
theorem ggX3_prepare_X8_copyFrom : GoodIn wsX3_prepare wsX8_copyFrom := goodIn_r _ [7, 8, 9, 10, 11, 12, 13, 14, 15, 16, 17, 18, 19, 20, 21, 22, 23, 24, 25, 26, 27, 28, 29, 30, 31, 32, 33, 34, 35, 36, 37, 38, 39, 40, 41, 42, 43, 44, 45, 46, 47, 48, 49, 50, 51, 52, 53, 54, 55, 56, 57, 58, 59, 60, 61, 62, 67, 68, 69, 70, 71, 72, 73, 74, 75, 76, 77, 78, 79, 80, 81, 82, 83, 84, 85, 86, 87, 88, 89, 90, 91, 92, 93, 94, 95, 96] (by decide +kernel) (by decide +kernel)
set_option maxRecDepth 20000 in
theorem gX3_prepare_X8_copyFrom : GoodIn wsX3_prepare (wsV RX3 25 RX8 yX8_copyFrom wsX8_copyFrom) := goodIn_app (goodIn_of _ (by decide +kernel)) ggX3_prepare_X8_copyFrom
theorem dX3_prepare_0 : decode cX3_prepare 0 = .ok (.aload_n 0, 1) := by decide +kernel
theorem dX3_prepare_1 : decode cX3_prepare 1 = .ok (.getfield 22, 3) := by decide +kernel
theorem dX3_prepare_4 : decode cX3_prepare 4 = .ok (.aload_n 0, 1) := by decide +kernel
theorem dX3_prepare_5 : decode cX3_prepare 5 = .ok (.getfield 18, 3) := by decide +kernel
theorem dX3_prepare_8 : decode cX3_prepare 8 = .ok (.invokevirtual 25, 3) := by decide +kernel
theorem dX3_prepare_11 : decode cX3_prepare 11 = .ok (.return_, 1) := by decide +kernel
set_option maxRecDepth 20000 in
theorem ggX3_settle_X9_isError : GoodIn wsX3_settle wsX9_isError := goodIn_r _ [3, 4, 5, 6] (by decide +kernel) (by decide +kernel)
set_option maxRecDepth 20000 in
theorem gX3_settle_X9_isError_n29 : GoodIn wsX3_settle (wsX9_isError) := ggX3_settle_X9_isError
set_option maxRecDepth 20000 in
theorem ggX3_settle_X3_recordSpare : GoodIn wsX3_settle wsX3_recordSpare := goodIn_r _ [11, 12, 13, 14, 15, 16, 17, 10, 18, 19, 2, 20, 21, 22, 23, 24] (by decide +kernel) (by decide +kernel)
set_option maxRecDepth 20000 in
theorem gX3_settle_X3_recordSpare : GoodIn wsX3_settle (wsV RX3 33 RX3 yX3_recordSpare wsX3_recordSpare) := goodIn_app (goodIn_of _ (by decide +kernel)) ggX3_settle_X3_recordSpare
theorem dX3_settle_0 : decode cX3_settle 0 = .ok (.iload_n 1, 1) := by decide +kernel
theorem dX3_settle_1 : decode cX3_settle 1 = .ok (.invokestatic 29, 3) := by decide +kernel
theorem dX3_settle_4 : decode cX3_settle 4 = .ok (.ifCond .ne 7, 3) := by decide +kernel
theorem dX3_settle_7 : decode cX3_settle 7 = .ok (.aload_n 0, 1) := by decide +kernel
theorem dX3_settle_8 : decode cX3_settle 8 = .ok (.invokevirtual 33, 3) := by decide +kernel
theorem dX3_settle_11 : decode cX3_settle 11 = .ok (.iload_n 1, 1) := by decide +kernel
theorem dX3_settle_12 : decode cX3_settle 12 = .ok (.ireturn, 1) := by decide +kernel
set_option maxRecDepth 20000 in
theorem ggX3_recordSpare_X3_dropOldest : GoodIn wsX3_recordSpare wsX3_dropOldest := goodIn_r _ [8, 2, 1, 12, 13, 14, 15] (by decide +kernel) (by decide +kernel)
set_option maxRecDepth 20000 in
theorem gX3_recordSpare_X3_dropOldest : GoodIn wsX3_recordSpare (wsV RX3 40 RX3 yX3_dropOldest wsX3_dropOldest) := goodIn_app (goodIn_of _ (by decide +kernel)) ggX3_recordSpare_X3_dropOldest
set_option maxRecDepth 20000 in
theorem ggX3_recordSpare_X9_within : GoodIn wsX3_recordSpare wsX9_within := goodIn_r _ [11] (by decide +kernel) (by decide +kernel)
set_option maxRecDepth 20000 in
theorem gX3_recordSpare_X9_within_n43 : GoodIn wsX3_recordSpare (wsX9_within) := ggX3_recordSpare_X9_within
theorem dX3_recordSpare_0 : decode cX3_recordSpare 0 = .ok (.aload_n 0, 1) := by decide +kernel
theorem dX3_recordSpare_1 : decode cX3_recordSpare 1 = .ok (.getfield 36, 3) := by decide +kernel
theorem dX3_recordSpare_4 : decode cX3_recordSpare 4 = .ok (.iconst 5, 1) := by decide +kernel
theorem dX3_recordSpare_5 : decode cX3_recordSpare 5 = .ok (.if_icmp .lt 7, 3) := by decide +kernel
theorem dX3_recordSpare_8 : decode cX3_recordSpare 8 = .ok (.aload_n 0, 1) := by decide +kernel
theorem dX3_recordSpare_9 : decode cX3_recordSpare 9 = .ok (.invokevirtual 40, 3) := by decide +kernel
theorem dX3_recordSpare_12 : decode cX3_recordSpare 12 = .ok (.aload_n 0, 1) := by decide +kernel
theorem dX3_recordSpare_13 : decode cX3_recordSpare 13 = .ok (.getfield 36, 3) := by decide +kernel
theorem dX3_recordSpare_16 : decode cX3_recordSpare 16 = .ok (.iconst 0, 1) := by decide +kernel
theorem dX3_recordSpare_17 : decode cX3_recordSpare 17 = .ok (.iconst 4, 1) := by decide +kernel
theorem dX3_recordSpare_18 : decode cX3_recordSpare 18 = .ok (.invokestatic 43, 3) := by decide +kernel
theorem dX3_recordSpare_21 : decode cX3_recordSpare 21 = .ok (.ifCond .eq 41, 3) := by decide +kernel
theorem dX3_recordSpare_24 : decode cX3_recordSpare 24 = .ok (.aload_n 0, 1) := by decide +kernel
theorem dX3_recordSpare_25 : decode cX3_recordSpare 25 = .ok (.getfield 11, 3) := by decide +kernel
theorem dX3_recordSpare_28 : decode cX3_recordSpare 28 = .ok (.aload_n 0, 1) := by decide +kernel
theorem dX3_recordSpare_29 : decode cX3_recordSpare 29 = .ok (.getfield 36, 3) := by decide +kernel
theorem dX3_recordSpare_32 : decode cX3_recordSpare 32 = .ok (.aaload, 1) := by decide +kernel
theorem dX3_recordSpare_33 : decode cX3_recordSpare 33 = .ok (.astore_n 1, 1) := by decide +kernel
theorem dX3_recordSpare_34 : decode cX3_recordSpare 34 = .ok (.aload_n 0, 1) := by decide +kernel
theorem dX3_recordSpare_35 : decode cX3_recordSpare 35 = .ok (.getfield 11, 3) := by decide +kernel
theorem dX3_recordSpare_38 : decode cX3_recordSpare 38 = .ok (.aload_n 0, 1) := by decide +kernel
theorem dX3_recordSpare_39 : decode cX3_recordSpare 39 = .ok (.getfield 36, 3) := by decide +kernel
theorem dX3_recordSpare_42 : decode cX3_recordSpare 42 = .ok (.aload_n 0, 1) := by decide +kernel
theorem dX3_recordSpare_43 : decode cX3_recordSpare 43 = .ok (.getfield 22, 3) := by decide +kernel
theorem dX3_recordSpare_46 : decode cX3_recordSpare 46 = .ok (.aastore, 1) := by decide +kernel
theorem dX3_recordSpare_47 : decode cX3_recordSpare 47 = .ok (.aload_n 0, 1) := by decide +kernel
theorem dX3_recordSpare_48 : decode cX3_recordSpare 48 = .ok (.aload_n 1, 1) := by decide +kernel
theorem dX3_recordSpare_49 : decode cX3_recordSpare 49 = .ok (.putfield 22, 3) := by decide +kernel
theorem dX3_recordSpare_52 : decode cX3_recordSpare 52 = .ok (.aload_n 0, 1) := by decide +kernel
theorem dX3_recordSpare_53 : decode cX3_recordSpare 53 = .ok (.dup, 1) := by decide +kernel
theorem dX3_recordSpare_54 : decode cX3_recordSpare 54 = .ok (.getfield 36, 3) := by decide +kernel
theorem dX3_recordSpare_57 : decode cX3_recordSpare 57 = .ok (.iconst 1, 1) := by decide +kernel
theorem dX3_recordSpare_58 : decode cX3_recordSpare 58 = .ok (.iadd, 1) := by decide +kernel
theorem dX3_recordSpare_59 : decode cX3_recordSpare 59 = .ok (.putfield 36, 3) := by decide +kernel
theorem dX3_recordSpare_62 : decode cX3_recordSpare 62 = .ok (.return_, 1) := by decide +kernel
theorem dX3_dropOldest_0 : decode cX3_dropOldest 0 = .ok (.aload_n 0, 1) := by decide +kernel
theorem dX3_dropOldest_1 : decode cX3_dropOldest 1 = .ok (.getfield 11, 3) := by decide +kernel
theorem dX3_dropOldest_4 : decode cX3_dropOldest 4 = .ok (.iconst 0, 1) := by decide +kernel
theorem dX3_dropOldest_5 : decode cX3_dropOldest 5 = .ok (.aaload, 1) := by decide +kernel
theorem dX3_dropOldest_6 : decode cX3_dropOldest 6 = .ok (.astore_n 1, 1) := by decide +kernel
theorem dX3_dropOldest_7 : decode cX3_dropOldest 7 = .ok (.iconst 0, 1) := by decide +kernel
theorem dX3_dropOldest_8 : decode cX3_dropOldest 8 = .ok (.istore_n 2, 1) := by decide +kernel
theorem dX3_dropOldest_9 : decode cX3_dropOldest 9 = .ok (.iload_n 2, 1) := by decide +kernel
theorem dX3_dropOldest_10 : decode cX3_dropOldest 10 = .ok (.iconst 4, 1) := by decide +kernel
theorem dX3_dropOldest_11 : decode cX3_dropOldest 11 = .ok (.if_icmp .ge 23, 3) := by decide +kernel
theorem dX3_dropOldest_14 : decode cX3_dropOldest 14 = .ok (.aload_n 0, 1) := by decide +kernel
theorem dX3_dropOldest_15 : decode cX3_dropOldest 15 = .ok (.getfield 11, 3) := by decide +kernel
theorem dX3_dropOldest_18 : decode cX3_dropOldest 18 = .ok (.iload_n 2, 1) := by decide +kernel
theorem dX3_dropOldest_19 : decode cX3_dropOldest 19 = .ok (.aload_n 0, 1) := by decide +kernel
theorem dX3_dropOldest_20 : decode cX3_dropOldest 20 = .ok (.getfield 11, 3) := by decide +kernel
theorem dX3_dropOldest_23 : decode cX3_dropOldest 23 = .ok (.iload_n 2, 1) := by decide +kernel
theorem dX3_dropOldest_24 : decode cX3_dropOldest 24 = .ok (.iconst 1, 1) := by decide +kernel
theorem dX3_dropOldest_25 : decode cX3_dropOldest 25 = .ok (.iadd, 1) := by decide +kernel
theorem dX3_dropOldest_26 : decode cX3_dropOldest 26 = .ok (.aaload, 1) := by decide +kernel
theorem dX3_dropOldest_27 : decode cX3_dropOldest 27 = .ok (.aastore, 1) := by decide +kernel
theorem dX3_dropOldest_28 : decode cX3_dropOldest 28 = .ok (.iinc 2 1, 3) := by decide +kernel
theorem dX3_dropOldest_31 : decode cX3_dropOldest 31 = .ok (.goto (-22), 3) := by decide +kernel
theorem dX3_dropOldest_34 : decode cX3_dropOldest 34 = .ok (.aload_n 0, 1) := by decide +kernel
theorem dX3_dropOldest_35 : decode cX3_dropOldest 35 = .ok (.getfield 11, 3) := by decide +kernel
theorem dX3_dropOldest_38 : decode cX3_dropOldest 38 = .ok (.iconst 4, 1) := by decide +kernel
theorem dX3_dropOldest_39 : decode cX3_dropOldest 39 = .ok (.aload_n 1, 1) := by decide +kernel
theorem dX3_dropOldest_40 : decode cX3_dropOldest 40 = .ok (.aastore, 1) := by decide +kernel
theorem dX3_dropOldest_41 : decode cX3_dropOldest 41 = .ok (.aload_n 0, 1) := by decide +kernel
theorem dX3_dropOldest_42 : decode cX3_dropOldest 42 = .ok (.iconst 4, 1) := by decide +kernel
theorem dX3_dropOldest_43 : decode cX3_dropOldest 43 = .ok (.putfield 36, 3) := by decide +kernel
theorem dX3_dropOldest_46 : decode cX3_dropOldest 46 = .ok (.return_, 1) := by decide +kernel
theorem dX3_abandon_0 : decode cX3_abandon 0 = .ok (.aload_n 0, 1) := by decide +kernel
theorem dX3_abandon_1 : decode cX3_abandon 1 = .ok (.getfield 18, 3) := by decide +kernel
theorem dX3_abandon_4 : decode cX3_abandon 4 = .ok (.astore_n 1, 1) := by decide +kernel
theorem dX3_abandon_5 : decode cX3_abandon 5 = .ok (.aload_n 0, 1) := by decide +kernel
theorem dX3_abandon_6 : decode cX3_abandon 6 = .ok (.aload_n 0, 1) := by decide +kernel
theorem dX3_abandon_7 : decode cX3_abandon 7 = .ok (.getfield 22, 3) := by decide +kernel
theorem dX3_abandon_10 : decode cX3_abandon 10 = .ok (.putfield 18, 3) := by decide +kernel
theorem dX3_abandon_13 : decode cX3_abandon 13 = .ok (.aload_n 0, 1) := by decide +kernel
theorem dX3_abandon_14 : decode cX3_abandon 14 = .ok (.aload_n 1, 1) := by decide +kernel
theorem dX3_abandon_15 : decode cX3_abandon 15 = .ok (.putfield 22, 3) := by decide +kernel
theorem dX3_abandon_18 : decode cX3_abandon 18 = .ok (.return_, 1) := by decide +kernel
set_option maxRecDepth 20000 in
theorem ggX3_stepBack_X9_within : GoodIn wsX3_stepBack wsX9_within := goodIn_r _ [7] (by decide +kernel) (by decide +kernel)
set_option maxRecDepth 20000 in
theorem gX3_stepBack_X9_within_n43 : GoodIn wsX3_stepBack (wsX9_within) := ggX3_stepBack_X9_within
theorem dX3_stepBack_0 : decode cX3_stepBack 0 = .ok (.aload_n 0, 1) := by decide +kernel
theorem dX3_stepBack_1 : decode cX3_stepBack 1 = .ok (.getfield 36, 3) := by decide +kernel
theorem dX3_stepBack_4 : decode cX3_stepBack 4 = .ok (.iconst 1, 1) := by decide +kernel
theorem dX3_stepBack_5 : decode cX3_stepBack 5 = .ok (.isub, 1) := by decide +kernel
theorem dX3_stepBack_6 : decode cX3_stepBack 6 = .ok (.istore_n 1, 1) := by decide +kernel
theorem dX3_stepBack_7 : decode cX3_stepBack 7 = .ok (.iload_n 1, 1) := by decide +kernel
theorem dX3_stepBack_8 : decode cX3_stepBack 8 = .ok (.iconst 0, 1) := by decide +kernel
theorem dX3_stepBack_9 : decode cX3_stepBack 9 = .ok (.iconst 4, 1) := by decide +kernel
theorem dX3_stepBack_10 : decode cX3_stepBack 10 = .ok (.invokestatic 43, 3) := by decide +kernel
theorem dX3_stepBack_13 : decode cX3_stepBack 13 = .ok (.ifCond .ne 6, 3) := by decide +kernel
theorem dX3_stepBack_16 : decode cX3_stepBack 16 = .ok (.ldc 47, 2) := by decide +kernel
theorem dX3_stepBack_18 : decode cX3_stepBack 18 = .ok (.ireturn, 1) := by decide +kernel
theorem dX3_stepBack_19 : decode cX3_stepBack 19 = .ok (.aload_n 0, 1) := by decide +kernel
theorem dX3_stepBack_20 : decode cX3_stepBack 20 = .ok (.getfield 18, 3) := by decide +kernel
theorem dX3_stepBack_23 : decode cX3_stepBack 23 = .ok (.astore_n 2, 1) := by decide +kernel
theorem dX3_stepBack_24 : decode cX3_stepBack 24 = .ok (.aload_n 0, 1) := by decide +kernel
theorem dX3_stepBack_25 : decode cX3_stepBack 25 = .ok (.aload_n 0, 1) := by decide +kernel
theorem dX3_stepBack_26 : decode cX3_stepBack 26 = .ok (.getfield 11, 3) := by decide +kernel
theorem dX3_stepBack_29 : decode cX3_stepBack 29 = .ok (.iload_n 1, 1) := by decide +kernel
theorem dX3_stepBack_30 : decode cX3_stepBack 30 = .ok (.aaload, 1) := by decide +kernel
theorem dX3_stepBack_31 : decode cX3_stepBack 31 = .ok (.putfield 18, 3) := by decide +kernel
theorem dX3_stepBack_34 : decode cX3_stepBack 34 = .ok (.aload_n 0, 1) := by decide +kernel
theorem dX3_stepBack_35 : decode cX3_stepBack 35 = .ok (.getfield 11, 3) := by decide +kernel
theorem dX3_stepBack_38 : decode cX3_stepBack 38 = .ok (.iload_n 1, 1) := by decide +kernel
theorem dX3_stepBack_39 : decode cX3_stepBack 39 = .ok (.aload_n 2, 1) := by decide +kernel
theorem dX3_stepBack_40 : decode cX3_stepBack 40 = .ok (.aastore, 1) := by decide +kernel
theorem dX3_stepBack_41 : decode cX3_stepBack 41 = .ok (.aload_n 0, 1) := by decide +kernel
theorem dX3_stepBack_42 : decode cX3_stepBack 42 = .ok (.iload_n 1, 1) := by decide +kernel
theorem dX3_stepBack_43 : decode cX3_stepBack 43 = .ok (.putfield 36, 3) := by decide +kernel
theorem dX3_stepBack_46 : decode cX3_stepBack 46 = .ok (.aload_n 0, 1) := by decide +kernel
theorem dX3_stepBack_47 : decode cX3_stepBack 47 = .ok (.getfield 36, 3) := by decide +kernel
theorem dX3_stepBack_50 : decode cX3_stepBack 50 = .ok (.ireturn, 1) := by decide +kernel
theorem dX4_init_0 : decode cX4_init 0 = .ok (.aload_n 0, 1) := by decide +kernel
theorem dX4_init_1 : decode cX4_init 1 = .ok (.invokespecial 1, 3) := by decide +kernel
theorem dX4_init_4 : decode cX4_init 4 = .ok (.aload_n 0, 1) := by decide +kernel
theorem dX4_init_5 : decode cX4_init 5 = .ok (.sipush 1000, 3) := by decide +kernel
theorem dX4_init_8 : decode cX4_init 8 = .ok (.putfield 7, 3) := by decide +kernel
theorem dX4_init_11 : decode cX4_init 11 = .ok (.aload_n 0, 1) := by decide +kernel
theorem dX4_init_12 : decode cX4_init 12 = .ok (.bipush 10, 2) := by decide +kernel
theorem dX4_init_14 : decode cX4_init 14 = .ok (.putfield 13, 3) := by decide +kernel
theorem dX4_init_17 : decode cX4_init 17 = .ok (.return_, 1) := by decide +kernel
theorem dX4_copyFrom_0 : decode cX4_copyFrom 0 = .ok (.aload_n 0, 1) := by decide +kernel
theorem dX4_copyFrom_1 : decode cX4_copyFrom 1 = .ok (.aload_n 1, 1) := by decide +kernel
theorem dX4_copyFrom_2 : decode cX4_copyFrom 2 = .ok (.getfield 7, 3) := by decide +kernel
theorem dX4_copyFrom_5 : decode cX4_copyFrom 5 = .ok (.putfield 7, 3) := by decide +kernel
theorem dX4_copyFrom_8 : decode cX4_copyFrom 8 = .ok (.aload_n 0, 1) := by decide +kernel
theorem dX4_copyFrom_9 : decode cX4_copyFrom 9 = .ok (.aload_n 1, 1) := by decide +kernel
theorem dX4_copyFrom_10 : decode cX4_copyFrom 10 = .ok (.getfield 13, 3) := by decide +kernel
theorem dX4_copyFrom_13 : decode cX4_copyFrom 13 = .ok (.putfield 13, 3) := by decide +kernel
theorem dX4_copyFrom_16 : decode cX4_copyFrom 16 = .ok (.return_, 1) := by decide +kernel
theorem dX4_lightest_0 : decode cX4_lightest 0 = .ok (.aload_n 0, 1) := by decide +kernel
theorem dX4_lightest_1 : decode cX4_lightest 1 = .ok (.getfield 7, 3) := by decide +kernel
theorem dX4_lightest_4 : decode cX4_lightest 4 = .ok (.aload_n 0, 1) := by decide +kernel
theorem dX4_lightest_5 : decode cX4_lightest 5 = .ok (.getfield 13, 3) := by decide +kernel
theorem dX4_lightest_8 : decode cX4_lightest 8 = .ok (.isub, 1) := by decide +kernel
theorem dX4_lightest_9 : decode cX4_lightest 9 = .ok (.ireturn, 1) := by decide +kernel
theorem dX4_heaviest_0 : decode cX4_heaviest 0 = .ok (.aload_n 0, 1) := by decide +kernel
theorem dX4_heaviest_1 : decode cX4_heaviest 1 = .ok (.getfield 7, 3) := by decide +kernel
theorem dX4_heaviest_4 : decode cX4_heaviest 4 = .ok (.aload_n 0, 1) := by decide +kernel
theorem dX4_heaviest_5 : decode cX4_heaviest 5 = .ok (.getfield 13, 3) := by decide +kernel
theorem dX4_heaviest_8 : decode cX4_heaviest 8 = .ok (.iadd, 1) := by decide +kernel
theorem dX4_heaviest_9 : decode cX4_heaviest 9 = .ok (.ireturn, 1) := by decide +kernel
theorem dX5_init_0 : decode cX5_init 0 = .ok (.aload_n 0, 1) := by decide +kernel
theorem dX5_init_1 : decode cX5_init 1 = .ok (.invokespecial 3, 3) := by decide +kernel
theorem dX5_init_4 : decode cX5_init 4 = .ok (.return_, 1) := by decide +kernel
theorem dX5_copyFrom_0 : decode cX5_copyFrom 0 = .ok (.aload_n 0, 1) := by decide +kernel
theorem dX5_copyFrom_1 : decode cX5_copyFrom 1 = .ok (.aload_n 1, 1) := by decide +kernel
theorem dX5_copyFrom_2 : decode cX5_copyFrom 2 = .ok (.getfield 9, 3) := by decide +kernel
theorem dX5_copyFrom_5 : decode cX5_copyFrom 5 = .ok (.putfield 9, 3) := by decide +kernel
theorem dX5_copyFrom_8 : decode cX5_copyFrom 8 = .ok (.aload_n 0, 1) := by decide +kernel
theorem dX5_copyFrom_9 : decode cX5_copyFrom 9 = .ok (.aload_n 1, 1) := by decide +kernel
theorem dX5_copyFrom_10 : decode cX5_copyFrom 10 = .ok (.getfield 15, 3) := by decide +kernel
theorem dX5_copyFrom_13 : decode cX5_copyFrom 13 = .ok (.putfield 15, 3) := by decide +kernel
theorem dX5_copyFrom_16 : decode cX5_copyFrom 16 = .ok (.aload_n 0, 1) := by decide +kernel
theorem dX5_copyFrom_17 : decode cX5_copyFrom 17 = .ok (.aload_n 1, 1) := by decide +kernel
theorem dX5_copyFrom_18 : decode cX5_copyFrom 18 = .ok (.getfield 18, 3) := by decide +kernel
theorem dX5_copyFrom_21 : decode cX5_copyFrom 21 = .ok (.putfield 18, 3) := by decide +kernel
theorem dX5_copyFrom_24 : decode cX5_copyFrom 24 = .ok (.aload_n 0, 1) := by decide +kernel
theorem dX5_copyFrom_25 : decode cX5_copyFrom 25 = .ok (.aload_n 1, 1) := by decide +kernel
theorem dX5_copyFrom_26 : decode cX5_copyFrom 26 = .ok (.getfield 21, 3) := by decide +kernel
theorem dX5_copyFrom_29 : decode cX5_copyFrom 29 = .ok (.putfield 21, 3) := by decide +kernel
theorem dX5_copyFrom_32 : decode cX5_copyFrom 32 = .ok (.aload_n 0, 1) := by decide +kernel
theorem dX5_copyFrom_33 : decode cX5_copyFrom 33 = .ok (.aload_n 1, 1) := by decide +kernel
theorem dX5_copyFrom_34 : decode cX5_copyFrom 34 = .ok (.getfield 24, 3) := by decide +kernel
theorem dX5_copyFrom_37 : decode cX5_copyFrom 37 = .ok (.putfield 24, 3) := by decide +kernel
theorem dX5_copyFrom_40 : decode cX5_copyFrom 40 = .ok (.aload_n 0, 1) := by decide +kernel
theorem dX5_copyFrom_41 : decode cX5_copyFrom 41 = .ok (.aload_n 1, 1) := by decide +kernel
theorem dX5_copyFrom_42 : decode cX5_copyFrom 42 = .ok (.getfield 27, 3) := by decide +kernel
theorem dX5_copyFrom_45 : decode cX5_copyFrom 45 = .ok (.putfield 27, 3) := by decide +kernel
theorem dX5_copyFrom_48 : decode cX5_copyFrom 48 = .ok (.aload_n 0, 1) := by decide +kernel
theorem dX5_copyFrom_49 : decode cX5_copyFrom 49 = .ok (.aload_n 1, 1) := by decide +kernel
theorem dX5_copyFrom_50 : decode cX5_copyFrom 50 = .ok (.getfield 30, 3) := by decide +kernel
theorem dX5_copyFrom_53 : decode cX5_copyFrom 53 = .ok (.putfield 30, 3) := by decide +kernel
theorem dX5_copyFrom_56 : decode cX5_copyFrom 56 = .ok (.return_, 1) := by decide +kernel
theorem dX5_begin_0 : decode cX5_begin 0 = .ok (.aload_n 0, 1) := by decide +kernel
theorem dX5_begin_1 : decode cX5_begin 1 = .ok (.iload_n 1, 1) := by decide +kernel
theorem dX5_begin_2 : decode cX5_begin 2 = .ok (.putfield 9, 3) := by decide +kernel
theorem dX5_begin_5 : decode cX5_begin 5 = .ok (.aload_n 0, 1) := by decide +kernel
theorem dX5_begin_6 : decode cX5_begin 6 = .ok (.iload_n 2, 1) := by decide +kernel
theorem dX5_begin_7 : decode cX5_begin 7 = .ok (.putfield 15, 3) := by decide +kernel
theorem dX5_begin_10 : decode cX5_begin 10 = .ok (.aload_n 0, 1) := by decide +kernel
theorem dX5_begin_11 : decode cX5_begin 11 = .ok (.iload_n 3, 1) := by decide +kernel
theorem dX5_begin_12 : decode cX5_begin 12 = .ok (.putfield 18, 3) := by decide +kernel
theorem dX5_begin_15 : decode cX5_begin 15 = .ok (.aload_n 0, 1) := by decide +kernel
theorem dX5_begin_16 : decode cX5_begin 16 = .ok (.iload 4, 2) := by decide +kernel
theorem dX5_begin_18 : decode cX5_begin 18 = .ok (.putfield 21, 3) := by decide +kernel
theorem dX5_begin_21 : decode cX5_begin 21 = .ok (.aload_n 0, 1) := by decide +kernel
theorem dX5_begin_22 : decode cX5_begin 22 = .ok (.iload 5, 2) := by decide +kernel
theorem dX5_begin_24 : decode cX5_begin 24 = .ok (.putfield 24, 3) := by decide +kernel
theorem dX5_begin_27 : decode cX5_begin 27 = .ok (.aload_n 0, 1) := by decide +kernel
theorem dX5_begin_28 : decode cX5_begin 28 = .ok (.iconst 0, 1) := by decide +kernel
theorem dX5_begin_29 : decode cX5_begin 29 = .ok (.putfield 27, 3) := by decide +kernel
theorem dX5_begin_32 : decode cX5_begin 32 = .ok (.aload_n 0, 1) := by decide +kernel
theorem dX5_begin_33 : decode cX5_begin 33 = .ok (.iconst 0, 1) := by decide +kernel
theorem dX5_begin_34 : decode cX5_begin 34 = .ok (.putfield 30, 3) := by decide +kernel
theorem dX5_begin_37 : decode cX5_begin 37 = .ok (.return_, 1) := by decide +kernel
set_option maxRecDepth 20000 in
theorem ggX5_sell_X9_quotient : GoodIn wsX5_sell wsX9_quotient := goodIn_r _ [13, 14, 15, 16, 17] (by decide +kernel) (by decide +kernel)
set_option maxRecDepth 20000 in
theorem gX5_sell_X9_quotient_n33 : GoodIn wsX5_sell (wsX9_quotient) := ggX5_sell_X9_quotient
theorem dX5_sell_0 : decode cX5_sell 0 = .ok (.aload_n 0, 1) := by decide +kernel
theorem dX5_sell_1 : decode cX5_sell 1 = .ok (.dup, 1) := by decide +kernel
theorem dX5_sell_2 : decode cX5_sell 2 = .ok (.getfield 18, 3) := by decide +kernel
theorem dX5_sell_5 : decode cX5_sell 5 = .ok (.iload_n 1, 1) := by decide +kernel
theorem dX5_sell_6 : decode cX5_sell 6 = .ok (.isub, 1) := by decide +kernel
theorem dX5_sell_7 : decode cX5_sell 7 = .ok (.putfield 18, 3) := by decide +kernel
theorem dX5_sell_10 : decode cX5_sell 10 = .ok (.aload_n 0, 1) := by decide +kernel
theorem dX5_sell_11 : decode cX5_sell 11 = .ok (.dup, 1) := by decide +kernel
theorem dX5_sell_12 : decode cX5_sell 12 = .ok (.getfield 27, 3) := by decide +kernel
theorem dX5_sell_15 : decode cX5_sell 15 = .ok (.iload_n 1, 1) := by decide +kernel
theorem dX5_sell_16 : decode cX5_sell 16 = .ok (.aload_n 0, 1) := by decide +kernel
theorem dX5_sell_17 : decode cX5_sell 17 = .ok (.getfield 15, 3) := by decide +kernel
theorem dX5_sell_20 : decode cX5_sell 20 = .ok (.imul, 1) := by decide +kernel
theorem dX5_sell_21 : decode cX5_sell 21 = .ok (.iadd, 1) := by decide +kernel
theorem dX5_sell_22 : decode cX5_sell 22 = .ok (.putfield 27, 3) := by decide +kernel
theorem dX5_sell_25 : decode cX5_sell 25 = .ok (.aload_n 0, 1) := by decide +kernel
theorem dX5_sell_26 : decode cX5_sell 26 = .ok (.getfield 27, 3) := by decide +kernel
theorem dX5_sell_29 : decode cX5_sell 29 = .ok (.aload_n 0, 1) := by decide +kernel
theorem dX5_sell_30 : decode cX5_sell 30 = .ok (.getfield 21, 3) := by decide +kernel
theorem dX5_sell_33 : decode cX5_sell 33 = .ok (.invokestatic 33, 3) := by decide +kernel
theorem dX5_sell_36 : decode cX5_sell 36 = .ok (.istore_n 2, 1) := by decide +kernel
theorem dX5_sell_37 : decode cX5_sell 37 = .ok (.aload_n 0, 1) := by decide +kernel
theorem dX5_sell_38 : decode cX5_sell 38 = .ok (.dup, 1) := by decide +kernel
theorem dX5_sell_39 : decode cX5_sell 39 = .ok (.getfield 27, 3) := by decide +kernel
theorem dX5_sell_42 : decode cX5_sell 42 = .ok (.iload_n 2, 1) := by decide +kernel
theorem dX5_sell_43 : decode cX5_sell 43 = .ok (.aload_n 0, 1) := by decide +kernel
theorem dX5_sell_44 : decode cX5_sell 44 = .ok (.getfield 21, 3) := by decide +kernel
theorem dX5_sell_47 : decode cX5_sell 47 = .ok (.imul, 1) := by decide +kernel
theorem dX5_sell_48 : decode cX5_sell 48 = .ok (.isub, 1) := by decide +kernel
theorem dX5_sell_49 : decode cX5_sell 49 = .ok (.putfield 27, 3) := by decide +kernel
theorem dX5_sell_52 : decode cX5_sell 52 = .ok (.aload_n 0, 1) := by decide +kernel
theorem dX5_sell_53 : decode cX5_sell 53 = .ok (.dup, 1) := by decide +kernel
theorem dX5_sell_54 : decode cX5_sell 54 = .ok (.getfield 30, 3) := by decide +kernel
theorem dX5_sell_57 : decode cX5_sell 57 = .ok (.iload_n 2, 1) := by decide +kernel
theorem dX5_sell_58 : decode cX5_sell 58 = .ok (.iadd, 1) := by decide +kernel
theorem dX5_sell_59 : decode cX5_sell 59 = .ok (.putfield 30, 3) := by decide +kernel
theorem dX5_sell_62 : decode cX5_sell 62 = .ok (.aload_n 0, 1) := by decide +kernel
theorem dX5_sell_63 : decode cX5_sell 63 = .ok (.bipush 99, 2) := by decide +kernel
theorem dX5_sell_65 : decode cX5_sell 65 = .ok (.aload_n 0, 1) := by decide +kernel
theorem dX5_sell_66 : decode cX5_sell 66 = .ok (.getfield 18, 3) := by decide +kernel
theorem dX5_sell_69 : decode cX5_sell 69 = .ok (.iload_n 2, 1) := by decide +kernel
theorem dX5_sell_70 : decode cX5_sell 70 = .ok (.aload_n 0, 1) := by decide +kernel
theorem dX5_sell_71 : decode cX5_sell 71 = .ok (.getfield 24, 3) := by decide +kernel
theorem dX5_sell_74 : decode cX5_sell 74 = .ok (.aload_n 0, 1) := by decide +kernel
theorem dX5_sell_75 : decode cX5_sell 75 = .ok (.getfield 15, 3) := by decide +kernel
theorem dX5_sell_78 : decode cX5_sell 78 = .ok (.invokestatic 33, 3) := by decide +kernel
theorem dX5_sell_81 : decode cX5_sell 81 = .ok (.imul, 1) := by decide +kernel
theorem dX5_sell_82 : decode cX5_sell 82 = .ok (.iadd, 1) := by decide +kernel
theorem dX5_sell_83 : decode cX5_sell 83 = .ok (.invokestatic 37, 3) := by decide +kernel
theorem dX5_sell_86 : decode cX5_sell 86 = .ok (.putfield 18, 3) := by decide +kernel
theorem dX5_sell_89 : decode cX5_sell 89 = .ok (.return_, 1) := by decide +kernel
set_option maxRecDepth 20000 in
theorem ggX5_sellOut_X5_sell : GoodIn wsX5_sellOut wsX5_sell := goodIn_r _ [7, 1, 8, 9, 10, 11, 12, 13, 14, 15, 16, 17, 18, 19, 20, 21, 22, 23, 24, 25, 26, 27, 28, 29, 30] (by decide +kernel) (by decide +kernel)
set_option maxRecDepth 20000 in
theorem gX5_sellOut_X5_sell : GoodIn wsX5_sellOut (wsV RX5 42 RX5 yX5_sell wsX5_sell) := goodIn_app (goodIn_of _ (by decide +kernel)) ggX5_sellOut_X5_sell
theorem dX5_sellOut_0 : decode cX5_sellOut 0 = .ok (.iconst 0, 1) := by decide +kernel
theorem dX5_sellOut_1 : decode cX5_sellOut 1 = .ok (.istore_n 1, 1) := by decide +kernel
theorem dX5_sellOut_2 : decode cX5_sellOut 2 = .ok (.iload_n 1, 1) := by decide +kernel
theorem dX5_sellOut_3 : decode cX5_sellOut 3 = .ok (.sipush 999, 3) := by decide +kernel
theorem dX5_sellOut_6 : decode cX5_sellOut 6 = .ok (.if_icmp .gt 23, 3) := by decide +kernel
theorem dX5_sellOut_9 : decode cX5_sellOut 9 = .ok (.aload_n 0, 1) := by decide +kernel
theorem dX5_sellOut_10 : decode cX5_sellOut 10 = .ok (.getfield 18, 3) := by decide +kernel
theorem dX5_sellOut_13 : decode cX5_sellOut 13 = .ok (.ifCond .ne 5, 3) := by decide +kernel
theorem dX5_sellOut_16 : decode cX5_sellOut 16 = .ok (.iload_n 1, 1) := by decide +kernel
theorem dX5_sellOut_17 : decode cX5_sellOut 17 = .ok (.ireturn, 1) := by decide +kernel
theorem dX5_sellOut_18 : decode cX5_sellOut 18 = .ok (.aload_n 0, 1) := by decide +kernel
theorem dX5_sellOut_19 : decode cX5_sellOut 19 = .ok (.iconst 1, 1) := by decide +kernel
theorem dX5_sellOut_20 : decode cX5_sellOut 20 = .ok (.invokevirtual 42, 3) := by decide +kernel
theorem dX5_sellOut_23 : decode cX5_sellOut 23 = .ok (.iinc 1 1, 3) := by decide +kernel
theorem dX5_sellOut_26 : decode cX5_sellOut 26 = .ok (.goto (-24), 3) := by decide +kernel
theorem dX5_sellOut_29 : decode cX5_sellOut 29 = .ok (.ldc 46, 2) := by decide +kernel
theorem dX5_sellOut_31 : decode cX5_sellOut 31 = .ok (.ireturn, 1) := by decide +kernel
theorem dX5_part_0 : decode cX5_part 0 = .ok (.iload_n 1, 1) := by decide +kernel
theorem dX5_part_1 : decode cX5_part 1 = .ok (.tableswitch 78 0 6 #[43, 48, 53, 58, 63, 68, 73], 43) := by decide +kernel
theorem dX5_part_44 : decode cX5_part 44 = .ok (.aload_n 0, 1) := by decide +kernel
theorem dX5_part_45 : decode cX5_part 45 = .ok (.getfield 9, 3) := by decide +kernel
theorem dX5_part_48 : decode cX5_part 48 = .ok (.ireturn, 1) := by decide +kernel
theorem dX5_part_49 : decode cX5_part 49 = .ok (.aload_n 0, 1) := by decide +kernel
theorem dX5_part_50 : decode cX5_part 50 = .ok (.getfield 15, 3) := by decide +kernel
theorem dX5_part_53 : decode cX5_part 53 = .ok (.ireturn, 1) := by decide +kernel
theorem dX5_part_54 : decode cX5_part 54 = .ok (.aload_n 0, 1) := by decide +kernel
theorem dX5_part_55 : decode cX5_part 55 = .ok (.getfield 18, 3) := by decide +kernel
theorem dX5_part_58 : decode cX5_part 58 = .ok (.ireturn, 1) := by decide +kernel
theorem dX5_part_59 : decode cX5_part 59 = .ok (.aload_n 0, 1) := by decide +kernel
theorem dX5_part_60 : decode cX5_part 60 = .ok (.getfield 21, 3) := by decide +kernel
theorem dX5_part_63 : decode cX5_part 63 = .ok (.ireturn, 1) := by decide +kernel
theorem dX5_part_64 : decode cX5_part 64 = .ok (.aload_n 0, 1) := by decide +kernel
theorem dX5_part_65 : decode cX5_part 65 = .ok (.getfield 24, 3) := by decide +kernel
theorem dX5_part_68 : decode cX5_part 68 = .ok (.ireturn, 1) := by decide +kernel
theorem dX5_part_69 : decode cX5_part 69 = .ok (.aload_n 0, 1) := by decide +kernel
theorem dX5_part_70 : decode cX5_part 70 = .ok (.getfield 27, 3) := by decide +kernel
theorem dX5_part_73 : decode cX5_part 73 = .ok (.ireturn, 1) := by decide +kernel
theorem dX5_part_74 : decode cX5_part 74 = .ok (.aload_n 0, 1) := by decide +kernel
theorem dX5_part_75 : decode cX5_part 75 = .ok (.getfield 30, 3) := by decide +kernel
theorem dX5_part_78 : decode cX5_part 78 = .ok (.ireturn, 1) := by decide +kernel
theorem dX5_part_79 : decode cX5_part 79 = .ok (.ldc 47, 2) := by decide +kernel
theorem dX5_part_81 : decode cX5_part 81 = .ok (.ireturn, 1) := by decide +kernel
set_option maxRecDepth 20000 in
theorem ggX6_init_X2_init : GoodIn wsX6_init wsX2_init := goodIn_r _ [13, 14, 2, 3] (by decide +kernel) (by decide +kernel)
set_option maxRecDepth 20000 in
theorem gX6_init_X2_init_n21 : GoodIn wsX6_init (wsX2_init) := ggX6_init_X2_init
theorem dX6_init_0 : decode cX6_init 0 = .ok (.aload_n 0, 1) := by decide +kernel
theorem dX6_init_1 : decode cX6_init 1 = .ok (.invokespecial 3, 3) := by decide +kernel
theorem dX6_init_4 : decode cX6_init 4 = .ok (.aload_n 0, 1) := by decide +kernel
theorem dX6_init_5 : decode cX6_init 5 = .ok (.sipush 140, 3) := by decide +kernel
theorem dX6_init_8 : decode cX6_init 8 = .ok (.newarray .char, 2) := by decide +kernel
theorem dX6_init_10 : decode cX6_init 10 = .ok (.putfield 9, 3) := by decide +kernel
theorem dX6_init_13 : decode cX6_init 13 = .ok (.aload_n 0, 1) := by decide +kernel
theorem dX6_init_14 : decode cX6_init 14 = .ok (.iconst 5, 1) := by decide +kernel
theorem dX6_init_15 : decode cX6_init 15 = .ok (.newarray .int, 2) := by decide +kernel
theorem dX6_init_17 : decode cX6_init 17 = .ok (.putfield 15, 3) := by decide +kernel
theorem dX6_init_20 : decode cX6_init 20 = .ok (.aload_n 0, 1) := by decide +kernel
theorem dX6_init_21 : decode cX6_init 21 = .ok (.new 19, 3) := by decide +kernel
theorem dX6_init_24 : decode cX6_init 24 = .ok (.dup, 1) := by decide +kernel
theorem dX6_init_25 : decode cX6_init 25 = .ok (.invokespecial 21, 3) := by decide +kernel
theorem dX6_init_28 : decode cX6_init 28 = .ok (.putfield 22, 3) := by decide +kernel
theorem dX6_init_31 : decode cX6_init 31 = .ok (.return_, 1) := by decide +kernel
set_option maxRecDepth 20000 in
theorem ggX6_addSign_X9_within : GoodIn wsX6_addSign wsX9_within := goodIn_r _ [7] (by decide +kernel) (by decide +kernel)
set_option maxRecDepth 20000 in
theorem gX6_addSign_X9_within_n26 : GoodIn wsX6_addSign (wsX9_within) := ggX6_addSign_X9_within
theorem dX6_addSign_0 : decode cX6_addSign 0 = .ok (.iload_n 1, 1) := by decide +kernel
theorem dX6_addSign_1 : decode cX6_addSign 1 = .ok (.iconst 1, 1) := by decide +kernel
theorem dX6_addSign_2 : decode cX6_addSign 2 = .ok (.sipush 255, 3) := by decide +kernel
theorem dX6_addSign_5 : decode cX6_addSign 5 = .ok (.invokestatic 26, 3) := by decide +kernel
theorem dX6_addSign_8 : decode cX6_addSign 8 = .ok (.ifCond .ne 6, 3) := by decide +kernel
theorem dX6_addSign_11 : decode cX6_addSign 11 = .ok (.ldc 30, 2) := by decide +kernel
theorem dX6_addSign_13 : decode cX6_addSign 13 = .ok (.ireturn, 1) := by decide +kernel
theorem dX6_addSign_14 : decode cX6_addSign 14 = .ok (.aload_n 0, 1) := by decide +kernel
theorem dX6_addSign_15 : decode cX6_addSign 15 = .ok (.getfield 31, 3) := by decide +kernel
theorem dX6_addSign_18 : decode cX6_addSign 18 = .ok (.iconst 0, 1) := by decide +kernel
theorem dX6_addSign_19 : decode cX6_addSign 19 = .ok (.sipush 139, 3) := by decide +kernel
theorem dX6_addSign_22 : decode cX6_addSign 22 = .ok (.invokestatic 26, 3) := by decide +kernel
theorem dX6_addSign_25 : decode cX6_addSign 25 = .ok (.ifCond .ne 6, 3) := by decide +kernel
theorem dX6_addSign_28 : decode cX6_addSign 28 = .ok (.ldc 35, 2) := by decide +kernel
theorem dX6_addSign_30 : decode cX6_addSign 30 = .ok (.ireturn, 1) := by decide +kernel
theorem dX6_addSign_31 : decode cX6_addSign 31 = .ok (.aload_n 0, 1) := by decide +kernel
theorem dX6_addSign_32 : decode cX6_addSign 32 = .ok (.getfield 9, 3) := by decide +kernel
theorem dX6_addSign_35 : decode cX6_addSign 35 = .ok (.aload_n 0, 1) := by decide +kernel
theorem dX6_addSign_36 : decode cX6_addSign 36 = .ok (.getfield 31, 3) := by decide +kernel
theorem dX6_addSign_39 : decode cX6_addSign 39 = .ok (.iload_n 1, 1) := by decide +kernel
theorem dX6_addSign_40 : decode cX6_addSign 40 = .ok (.i2c, 1) := by decide +kernel
theorem dX6_addSign_41 : decode cX6_addSign 41 = .ok (.castore, 1) := by decide +kernel
theorem dX6_addSign_42 : decode cX6_addSign 42 = .ok (.aload_n 0, 1) := by decide +kernel
theorem dX6_addSign_43 : decode cX6_addSign 43 = .ok (.dup, 1) := by decide +kernel
theorem dX6_addSign_44 : decode cX6_addSign 44 = .ok (.getfield 31, 3) := by decide +kernel
theorem dX6_addSign_47 : decode cX6_addSign 47 = .ok (.iconst 1, 1) := by decide +kernel
theorem dX6_addSign_48 : decode cX6_addSign 48 = .ok (.iadd, 1) := by decide +kernel
theorem dX6_addSign_49 : decode cX6_addSign 49 = .ok (.putfield 31, 3) := by decide +kernel
theorem dX6_addSign_52 : decode cX6_addSign 52 = .ok (.aload_n 0, 1) := by decide +kernel
theorem dX6_addSign_53 : decode cX6_addSign 53 = .ok (.getfield 31, 3) := by decide +kernel
theorem dX6_addSign_56 : decode cX6_addSign 56 = .ok (.ireturn, 1) := by decide +kernel
theorem dX6_emptyText_0 : decode cX6_emptyText 0 = .ok (.aload_n 0, 1) := by decide +kernel
theorem dX6_emptyText_1 : decode cX6_emptyText 1 = .ok (.getfield 31, 3) := by decide +kernel
theorem dX6_emptyText_4 : decode cX6_emptyText 4 = .ok (.istore_n 1, 1) := by decide +kernel
theorem dX6_emptyText_5 : decode cX6_emptyText 5 = .ok (.aload_n 0, 1) := by decide +kernel
theorem dX6_emptyText_6 : decode cX6_emptyText 6 = .ok (.iconst 0, 1) := by decide +kernel
theorem dX6_emptyText_7 : decode cX6_emptyText 7 = .ok (.putfield 31, 3) := by decide +kernel
theorem dX6_emptyText_10 : decode cX6_emptyText 10 = .ok (.iload_n 1, 1) := by decide +kernel
theorem dX6_emptyText_11 : decode cX6_emptyText 11 = .ok (.ireturn, 1) := by decide +kernel
set_option maxRecDepth 20000 in
theorem ggX6_runOn_X6_readToken : GoodIn wsX6_runOn wsX6_readToken := goodIn_r _ [10, 1, 2, 3, 11, 12, 13, 9, 14, 15, 16, 17, 18, 19, 20, 21, 22, 23, 24, 306, 307, 308, 309, 310, 311] (by decide +kernel) (by decide +kernel)
set_option maxRecDepth 20000 in
theorem gX6_runOn_X6_readToken : GoodIn wsX6_runOn (wsV RX6 39 RX6 yX6_readToken wsX6_readToken) := goodIn_app (goodIn_of _ (by decide +kernel)) ggX6_runOn_X6_readToken
set_option maxRecDepth 20000 in
theorem ggX6_runOn_X6_commandHere : GoodIn wsX6_runOn wsX6_commandHere := goodIn_r _ [28, 29, 30, 31, 9, 32, 1, 2, 33, 34, 35, 36, 37, 38, 39, 40, 41, 42, 43, 44, 45, 46, 47, 48, 49, 50, 51, 52, 53, 54, 55, 56, 57, 58, 59, 60, 61, 62, 63, 64, 65, 66, 67, 68, 69, 70, 71, 72, 73, 74, 75, 76, 77, 78, 79, 80, 81, 11, 12, 13, 14, 3, 15, 16, 17, 18, 306, 307, 308, 309, 310, 311] (by decide +kernel) (by decide +kernel)
set_option maxRecDepth 20000 in
theorem gX6_runOn_X6_commandHere : GoodIn wsX6_runOn (wsV RX6 45 RX6 yX6_commandHere wsX6_commandHere) := goodIn_app (goodIn_of _ (by decide +kernel)) ggX6_runOn_X6_commandHere
set_option maxRecDepth 20000 in
theorem ggX6_runOn_X6_numbersOf : GoodIn wsX6_runOn wsX6_numbersOf := goodIn_r _ [84] (by decide +kernel) (by decide +kernel)
set_option maxRecDepth 20000 in
theorem gX6_runOn_X6_numbersOf : GoodIn wsX6_runOn (va_wsS RX6 49 yX6_numbersOf wsX6_numbersOf) := goodIn_app (goodIn_of _ (by decide +kernel)) ggX6_runOn_X6_numbersOf
set_option maxRecDepth 20000 in
theorem ggX6_runOn_X6_readNumbers : GoodIn wsX6_runOn wsX6_readNumbers := goodIn_r _ [88, 89, 6, 7, 8, 9, 10, 1, 2, 3, 11, 12, 13, 14, 15, 16, 17, 18, 19, 20, 21, 22, 23, 24, 90, 91, 92, 93, 94, 95, 96, 97, 306, 307, 308, 309, 310, 311] (by decide +kernel) (by decide +kernel)
set_option maxRecDepth 20000 in
theorem gX6_runOn_X6_readNumbers : GoodIn wsX6_runOn (wsV RX6 53 RX6 yX6_readNumbers wsX6_readNumbers) := goodIn_app (goodIn_of _ (by decide +kernel)) ggX6_runOn_X6_readNumbers
set_option maxRecDepth 20000 in
theorem ggX6_runOn_X6_readEnd : GoodIn wsX6_runOn wsX6_readEnd := goodIn_r _ [101, 2, 6, 7, 8, 9, 10, 1, 3, 11, 12, 13, 14, 15, 16, 17, 18, 19, 20, 21, 22, 23, 24, 306, 307, 308, 309, 310, 311] (by decide +kernel) (by decide +kernel)
set_option maxRecDepth 20000 in
theorem gX6_runOn_X6_readEnd : GoodIn wsX6_runOn (wsV RX6 57 RX6 yX6_readEnd wsX6_readEnd) := goodIn_app (goodIn_of _ (by decide +kernel)) ggX6_runOn_X6_readEnd
set_option maxRecDepth 20000 in
theorem ggX6_runOn_X2_note : GoodIn wsX6_runOn wsX2_note := goodIn_r _ [106, 107, 108, 109, 110, 111, 112, 312, 313, 314, 315] (by decide +kernel) (by decide +kernel)
set_option maxRecDepth 20000 in
theorem gX6_runOn_X2_note : GoodIn wsX6_runOn (wsV RX6 62 RX2 yX2_note wsX2_note) := goodIn_app (goodIn_of _ (by decide +kernel)) ggX6_runOn_X2_note
set_option maxRecDepth 20000 in
theorem ggX6_runOn_X6_perform : GoodIn wsX6_runOn wsX6_perform := goodIn_r _ [116, 89, 117, 118, 119, 120, 121, 122, 123, 124, 125, 126, 127, 128, 129, 16, 17, 18, 130, 131, 132, 133, 134, 135, 136, 137, 138, 139, 140, 141, 142, 143, 144, 145, 146, 147, 148, 149, 150, 151, 152, 153, 154, 155, 156, 157, 158, 159, 160, 161, 162, 163, 164, 165, 166, 167, 168, 169, 170, 171, 172, 173, 174, 175, 176, 177, 178, 179, 180, 181, 182, 183, 184, 185, 186, 187, 188, 189, 190, 191, 192, 193, 194, 195, 196, 197, 198, 199, 200, 201, 202, 203, 204, 205, 206, 207, 208, 209, 210, 211, 212, 213, 214, 215, 216, 217, 218, 219, 220, 221, 222, 223, 224, 225, 226, 227, 228, 229, 230, 231, 232, 233, 234, 235, 236, 237, 238, 239, 240, 241, 242, 243, 244, 245, 246, 247, 248, 249, 250, 251, 252, 253, 254, 255, 256, 257, 258, 259, 260, 261, 262, 263, 264, 265, 266, 267, 268, 269, 270, 271, 272, 273, 274, 275, 276, 277, 278, 279, 280, 281, 282, 283, 284, 285, 286, 287, 288, 289, 290, 291, 292, 293, 294, 295, 296, 297, 298, 299, 300, 306, 307, 308, 309, 310, 311, 316, 317, 318, 319, 320, 321, 322, 323, 324, 325, 326, 327, 328, 329, 330, 331, 332, 333, 334, 335, 336, 337, 338, 339, 340, 341, 342] (by decide +kernel) (by decide +kernel)
set_option maxRecDepth 20000 in
theorem gX6_runOn_X6_perform : GoodIn wsX6_runOn (wsV RX6 66 RX6 yX6_perform wsX6_perform) := goodIn_app (goodIn_of _ (by decide +kernel)) ggX6_runOn_X6_perform
set_option maxRecDepth 20000 in
theorem ggX6_runOn_X9_isError : GoodIn wsX6_runOn wsX9_isError := goodIn_r _ [302, 303, 304, 305] (by decide +kernel) (by decide +kernel)
set_option maxRecDepth 20000 in
theorem gX6_runOn_X9_isError_n70 : GoodIn wsX6_runOn (wsX9_isError) := ggX6_runOn_X9_isError
theorem dX6_runOn_0 : decode cX6_runOn 0 = .ok (.aload_n 0, 1) := by decide +kernel
theorem dX6_runOn_1 : decode cX6_runOn 1 = .ok (.iconst 0, 1) := by decide +kernel
theorem dX6_runOn_2 : decode cX6_runOn 2 = .ok (.putfield 36, 3) := by decide +kernel
theorem dX6_runOn_5 : decode cX6_runOn 5 = .ok (.iconst 0, 1) := by decide +kernel
theorem dX6_runOn_6 : decode cX6_runOn 6 = .ok (.istore_n 2, 1) := by decide +kernel
theorem dX6_runOn_7 : decode cX6_runOn 7 = .ok (.iload_n 2, 1) := by decide +kernel
theorem dX6_runOn_8 : decode cX6_runOn 8 = .ok (.sipush 140, 3) := by decide +kernel
theorem dX6_runOn_11 : decode cX6_runOn 11 = .ok (.if_icmp .gt 119, 3) := by decide +kernel
theorem dX6_runOn_14 : decode cX6_runOn 14 = .ok (.aload_n 0, 1) := by decide +kernel
theorem dX6_runOn_15 : decode cX6_runOn 15 = .ok (.invokevirtual 39, 3) := by decide +kernel
theorem dX6_runOn_18 : decode cX6_runOn 18 = .ok (.aload_n 0, 1) := by decide +kernel
theorem dX6_runOn_19 : decode cX6_runOn 19 = .ok (.getfield 42, 3) := by decide +kernel
theorem dX6_runOn_22 : decode cX6_runOn 22 = .ok (.aload_n 0, 1) := by decide +kernel
theorem dX6_runOn_23 : decode cX6_runOn 23 = .ok (.getfield 31, 3) := by decide +kernel
theorem dX6_runOn_26 : decode cX6_runOn 26 = .ok (.if_icmp .lt 5, 3) := by decide +kernel
theorem dX6_runOn_29 : decode cX6_runOn 29 = .ok (.iload_n 2, 1) := by decide +kernel
theorem dX6_runOn_30 : decode cX6_runOn 30 = .ok (.ireturn, 1) := by decide +kernel
theorem dX6_runOn_31 : decode cX6_runOn 31 = .ok (.aload_n 0, 1) := by decide +kernel
theorem dX6_runOn_32 : decode cX6_runOn 32 = .ok (.getfield 42, 3) := by decide +kernel
theorem dX6_runOn_35 : decode cX6_runOn 35 = .ok (.istore_n 3, 1) := by decide +kernel
theorem dX6_runOn_36 : decode cX6_runOn 36 = .ok (.aload_n 0, 1) := by decide +kernel
theorem dX6_runOn_37 : decode cX6_runOn 37 = .ok (.invokevirtual 45, 3) := by decide +kernel
theorem dX6_runOn_40 : decode cX6_runOn 40 = .ok (.istore 4, 2) := by decide +kernel
theorem dX6_runOn_42 : decode cX6_runOn 42 = .ok (.iload 4, 2) := by decide +kernel
theorem dX6_runOn_44 : decode cX6_runOn 44 = .ok (.iconst (-1), 1) := by decide +kernel
theorem dX6_runOn_45 : decode cX6_runOn 45 = .ok (.if_icmp .eq 22, 3) := by decide +kernel
theorem dX6_runOn_48 : decode cX6_runOn 48 = .ok (.aload_n 0, 1) := by decide +kernel
theorem dX6_runOn_49 : decode cX6_runOn 49 = .ok (.iload 4, 2) := by decide +kernel
theorem dX6_runOn_51 : decode cX6_runOn 51 = .ok (.invokestatic 49, 3) := by decide +kernel
theorem dX6_runOn_54 : decode cX6_runOn 54 = .ok (.invokevirtual 53, 3) := by decide +kernel
theorem dX6_runOn_57 : decode cX6_runOn 57 = .ok (.ifCond .eq 10, 3) := by decide +kernel
theorem dX6_runOn_60 : decode cX6_runOn 60 = .ok (.aload_n 0, 1) := by decide +kernel
theorem dX6_runOn_61 : decode cX6_runOn 61 = .ok (.invokevirtual 57, 3) := by decide +kernel
theorem dX6_runOn_64 : decode cX6_runOn 64 = .ok (.ifCond .ne 26, 3) := by decide +kernel
theorem dX6_runOn_67 : decode cX6_runOn 67 = .ok (.aload_n 0, 1) := by decide +kernel
theorem dX6_runOn_68 : decode cX6_runOn 68 = .ok (.getfield 22, 3) := by decide +kernel
theorem dX6_runOn_71 : decode cX6_runOn 71 = .ok (.aload_n 0, 1) := by decide +kernel
theorem dX6_runOn_72 : decode cX6_runOn 72 = .ok (.getfield 42, 3) := by decide +kernel
theorem dX6_runOn_75 : decode cX6_runOn 75 = .ok (.ldc 61, 2) := by decide +kernel
theorem dX6_runOn_77 : decode cX6_runOn 77 = .ok (.iload_n 2, 1) := by decide +kernel
theorem dX6_runOn_78 : decode cX6_runOn 78 = .ok (.invokevirtual 62, 3) := by decide +kernel
theorem dX6_runOn_81 : decode cX6_runOn 81 = .ok (.sipush (-1000), 3) := by decide +kernel
theorem dX6_runOn_84 : decode cX6_runOn 84 = .ok (.aload_n 0, 1) := by decide +kernel
theorem dX6_runOn_85 : decode cX6_runOn 85 = .ok (.getfield 42, 3) := by decide +kernel
theorem dX6_runOn_88 : decode cX6_runOn 88 = .ok (.isub, 1) := by decide +kernel
theorem dX6_runOn_89 : decode cX6_runOn 89 = .ok (.ireturn, 1) := by decide +kernel
theorem dX6_runOn_90 : decode cX6_runOn 90 = .ok (.aload_n 0, 1) := by decide +kernel
theorem dX6_runOn_91 : decode cX6_runOn 91 = .ok (.iload 4, 2) := by decide +kernel
theorem dX6_runOn_93 : decode cX6_runOn 93 = .ok (.aload_n 1, 1) := by decide +kernel
theorem dX6_runOn_94 : decode cX6_runOn 94 = .ok (.invokevirtual 66, 3) := by decide +kernel
theorem dX6_runOn_97 : decode cX6_runOn 97 = .ok (.istore 5, 2) := by decide +kernel
theorem dX6_runOn_99 : decode cX6_runOn 99 = .ok (.iload 5, 2) := by decide +kernel
theorem dX6_runOn_101 : decode cX6_runOn 101 = .ok (.invokestatic 70, 3) := by decide +kernel
theorem dX6_runOn_104 : decode cX6_runOn 104 = .ok (.ifCond .eq 20, 3) := by decide +kernel
theorem dX6_runOn_107 : decode cX6_runOn 107 = .ok (.aload_n 0, 1) := by decide +kernel
theorem dX6_runOn_108 : decode cX6_runOn 108 = .ok (.getfield 22, 3) := by decide +kernel
theorem dX6_runOn_111 : decode cX6_runOn 111 = .ok (.iload_n 3, 1) := by decide +kernel
theorem dX6_runOn_112 : decode cX6_runOn 112 = .ok (.iload 5, 2) := by decide +kernel
theorem dX6_runOn_114 : decode cX6_runOn 114 = .ok (.iload_n 2, 1) := by decide +kernel
theorem dX6_runOn_115 : decode cX6_runOn 115 = .ok (.invokevirtual 62, 3) := by decide +kernel
theorem dX6_runOn_118 : decode cX6_runOn 118 = .ok (.sipush (-1000), 3) := by decide +kernel
theorem dX6_runOn_121 : decode cX6_runOn 121 = .ok (.iload_n 3, 1) := by decide +kernel
theorem dX6_runOn_122 : decode cX6_runOn 122 = .ok (.isub, 1) := by decide +kernel
theorem dX6_runOn_123 : decode cX6_runOn 123 = .ok (.ireturn, 1) := by decide +kernel
theorem dX6_runOn_124 : decode cX6_runOn 124 = .ok (.iinc 2 1, 3) := by decide +kernel
theorem dX6_runOn_127 : decode cX6_runOn 127 = .ok (.goto (-120), 3) := by decide +kernel
theorem dX6_runOn_130 : decode cX6_runOn 130 = .ok (.sipush 140, 3) := by decide +kernel
theorem dX6_runOn_133 : decode cX6_runOn 133 = .ok (.ireturn, 1) := by decide +kernel
set_option maxRecDepth 20000 in
theorem ggX6_perform_X0_changeKind : GoodIn wsX6_perform wsX0_changeKind := goodIn_r _ [6, 7, 8, 9, 10, 11, 12, 5, 13, 14, 15, 16, 17, 195, 196, 197, 198, 199, 200, 201, 202, 203, 204, 205] (by decide +kernel) (by decide +kernel)
set_option maxRecDepth 20000 in
theorem gX6_perform_X0_changeKind : GoodIn wsX6_perform (wsV RX6 73 RX0 yX0_changeKind wsX0_changeKind) := goodIn_app (goodIn_of _ (by decide +kernel)) ggX6_perform_X0_changeKind
set_option maxRecDepth 20000 in
theorem ggX6_perform_X0_changeScale : GoodIn wsX6_perform wsX0_changeScale := goodIn_r _ [21, 7, 22, 23, 24, 25, 26, 27, 28, 29, 30, 31, 32, 15, 16, 17, 197, 198, 199, 200, 201, 202, 203, 204, 205, 206, 207, 208] (by decide +kernel) (by decide +kernel)
set_option maxRecDepth 20000 in
theorem gX6_perform_X0_changeScale : GoodIn wsX6_perform (wsV RX6 79 RX0 yX0_changeScale wsX0_changeScale) := goodIn_app (goodIn_of _ (by decide +kernel)) ggX6_perform_X0_changeScale
set_option maxRecDepth 20000 in
theorem ggX6_perform_X0_changeRule : GoodIn wsX6_perform wsX0_changeRule := goodIn_r _ [36, 7, 37, 15, 16, 17, 197, 198, 199, 200, 201, 202, 203, 204, 205] (by decide +kernel) (by decide +kernel)
set_option maxRecDepth 20000 in
theorem gX6_perform_X0_changeRule : GoodIn wsX6_perform (wsV RX6 83 RX0 yX0_changeRule wsX0_changeRule) := goodIn_app (goodIn_of _ (by decide +kernel)) ggX6_perform_X0_changeRule
set_option maxRecDepth 20000 in
theorem ggX6_perform_X0_addCustomer : GoodIn wsX6_perform wsX0_addCustomer := goodIn_r _ [41, 7, 42, 43, 44, 15, 16, 17, 45, 46, 47, 48, 49, 50, 51, 197, 198, 199, 200, 201, 202, 203, 204, 205, 209, 210, 211, 212, 213, 214] (by decide +kernel) (by decide +kernel)
set_option maxRecDepth 20000 in
theorem gX6_perform_X0_addCustomer : GoodIn wsX6_perform (wsV RX6 86 RX0 yX0_addCustomer wsX0_addCustomer) := goodIn_app (goodIn_of _ (by decide +kernel)) ggX6_perform_X0_addCustomer
set_option maxRecDepth 20000 in
theorem ggX6_perform_X0_placePrize : GoodIn wsX6_perform wsX0_placePrize := goodIn_r _ [55, 7, 56, 57, 43, 58, 15, 16, 17, 59, 60, 61, 62, 63, 64, 65, 66, 67, 68, 69, 70, 197, 198, 199, 200, 201, 202, 203, 204, 205, 215, 216, 217, 218, 219, 220, 221] (by decide +kernel) (by decide +kernel)
set_option maxRecDepth 20000 in
theorem gX6_perform_X0_placePrize : GoodIn wsX6_perform (wsV RX6 89 RX0 yX0_placePrize wsX0_placePrize) := goodIn_app (goodIn_of _ (by decide +kernel)) ggX6_perform_X0_placePrize
set_option maxRecDepth 20000 in
theorem ggX6_perform_X0_weighBundle : GoodIn wsX6_perform wsX0_weighBundle := goodIn_r _ [74, 7, 9, 22, 23, 8, 25, 37, 75, 76, 77, 78, 5, 79, 42, 44, 15, 16, 17, 10, 11, 12, 13, 14, 80, 81, 82, 31, 28, 32, 83, 84, 85, 86, 87, 88, 89, 90, 91, 92, 93, 94, 95, 96, 97, 27, 29, 98, 99, 100, 101, 102, 103, 104, 105, 106, 107, 108, 109, 110, 111, 112, 113, 114, 115, 116, 117, 118, 119, 120, 121, 122, 123, 124, 125, 126, 127, 128, 129, 130, 131, 132, 133, 134, 135, 136, 137, 138, 48, 139, 50, 140, 141, 142, 143, 144, 51, 145, 146, 147, 148, 195, 196, 197, 198, 199, 200, 201, 202, 203, 204, 205, 206, 207, 208, 209, 210, 211, 212, 213, 214] (by decide +kernel) (by decide +kernel)
set_option maxRecDepth 20000 in
theorem gX6_perform_X0_weighBundle : GoodIn wsX6_perform (wsV RX6 93 RX0 yX0_weighBundle wsX0_weighBundle) := goodIn_app (goodIn_of _ (by decide +kernel)) ggX6_perform_X0_weighBundle
set_option maxRecDepth 20000 in
theorem ggX6_perform_X0_settleClaim : GoodIn wsX6_perform wsX0_settleClaim := goodIn_r _ [152, 7, 153, 154, 155, 156, 157, 158, 75, 159, 76, 77, 78, 5, 79, 42, 44, 15, 16, 17, 10, 11, 12, 13, 14, 160, 161, 162, 163, 22, 164, 100, 101, 93, 102, 103, 98, 31, 28, 32, 104, 105, 106, 107, 108, 109, 110, 111, 112, 113, 114, 115, 84, 85, 86, 87, 88, 89, 165, 117, 118, 119, 120, 121, 122, 123, 124, 125, 126, 127, 128, 129, 130, 131, 136, 137, 138, 48, 139, 50, 140, 166, 167, 168, 169, 146, 170, 171, 172, 148, 209, 210, 211, 212, 213, 214, 197, 198, 199, 200, 201, 202, 203, 204, 205, 206, 207, 208, 195, 196] (by decide +kernel) (by decide +kernel)
set_option maxRecDepth 20000 in
theorem gX6_perform_X0_settleClaim : GoodIn wsX6_perform (wsV RX6 97 RX0 yX0_settleClaim wsX0_settleClaim) := goodIn_app (goodIn_of _ (by decide +kernel)) ggX6_perform_X0_settleClaim
set_option maxRecDepth 20000 in
theorem ggX6_perform_X0_sellPrize : GoodIn wsX6_perform wsX0_sellPrize := goodIn_r _ [176, 7, 177, 178, 155, 179, 43, 76, 77, 78, 5, 79, 42, 44, 15, 16, 17, 180, 181, 182, 183, 57, 58, 184, 185, 186, 62, 187, 66, 69, 65, 67, 70, 68, 188, 27, 28, 29, 84, 85, 86, 87, 88, 89, 209, 210, 211, 212, 213, 214, 215, 216, 217, 218, 219, 220, 221, 197, 198, 199, 200, 201, 202, 203, 204, 205] (by decide +kernel) (by decide +kernel)
set_option maxRecDepth 20000 in
theorem gX6_perform_X0_sellPrize : GoodIn wsX6_perform (wsV RX6 100 RX0 yX0_sellPrize wsX0_sellPrize) := goodIn_app (goodIn_of _ (by decide +kernel)) ggX6_perform_X0_sellPrize
theorem dX6_perform_0 : decode cX6_perform 0 = .ok (.iload_n 1, 1) := by decide +kernel
theorem dX6_perform_1 : decode cX6_perform 1 = .ok (.tableswitch 181 0 6 #[43, 66, 83, 94, 105, 140, 164], 43) := by decide +kernel
theorem dX6_perform_44 : decode cX6_perform 44 = .ok (.aload_n 2, 1) := by decide +kernel
theorem dX6_perform_45 : decode cX6_perform 45 = .ok (.aload_n 0, 1) := by decide +kernel
theorem dX6_perform_46 : decode cX6_perform 46 = .ok (.getfield 15, 3) := by decide +kernel
theorem dX6_perform_49 : decode cX6_perform 49 = .ok (.iconst 0, 1) := by decide +kernel
theorem dX6_perform_50 : decode cX6_perform 50 = .ok (.iaload, 1) := by decide +kernel
theorem dX6_perform_51 : decode cX6_perform 51 = .ok (.aload_n 0, 1) := by decide +kernel
theorem dX6_perform_52 : decode cX6_perform 52 = .ok (.getfield 15, 3) := by decide +kernel
theorem dX6_perform_55 : decode cX6_perform 55 = .ok (.iconst 1, 1) := by decide +kernel
theorem dX6_perform_56 : decode cX6_perform 56 = .ok (.iaload, 1) := by decide +kernel
theorem dX6_perform_57 : decode cX6_perform 57 = .ok (.aload_n 0, 1) := by decide +kernel
theorem dX6_perform_58 : decode cX6_perform 58 = .ok (.getfield 15, 3) := by decide +kernel
theorem dX6_perform_61 : decode cX6_perform 61 = .ok (.iconst 2, 1) := by decide +kernel
theorem dX6_perform_62 : decode cX6_perform 62 = .ok (.iaload, 1) := by decide +kernel
theorem dX6_perform_63 : decode cX6_perform 63 = .ok (.invokevirtual 73, 3) := by decide +kernel
theorem dX6_perform_66 : decode cX6_perform 66 = .ok (.ireturn, 1) := by decide +kernel
theorem dX6_perform_67 : decode cX6_perform 67 = .ok (.aload_n 2, 1) := by decide +kernel
theorem dX6_perform_68 : decode cX6_perform 68 = .ok (.aload_n 0, 1) := by decide +kernel
theorem dX6_perform_69 : decode cX6_perform 69 = .ok (.getfield 15, 3) := by decide +kernel
theorem dX6_perform_72 : decode cX6_perform 72 = .ok (.iconst 0, 1) := by decide +kernel
theorem dX6_perform_73 : decode cX6_perform 73 = .ok (.iaload, 1) := by decide +kernel
theorem dX6_perform_74 : decode cX6_perform 74 = .ok (.aload_n 0, 1) := by decide +kernel
theorem dX6_perform_75 : decode cX6_perform 75 = .ok (.getfield 15, 3) := by decide +kernel
theorem dX6_perform_78 : decode cX6_perform 78 = .ok (.iconst 1, 1) := by decide +kernel
theorem dX6_perform_79 : decode cX6_perform 79 = .ok (.iaload, 1) := by decide +kernel
theorem dX6_perform_80 : decode cX6_perform 80 = .ok (.invokevirtual 79, 3) := by decide +kernel
theorem dX6_perform_83 : decode cX6_perform 83 = .ok (.ireturn, 1) := by decide +kernel
theorem dX6_perform_84 : decode cX6_perform 84 = .ok (.aload_n 2, 1) := by decide +kernel
theorem dX6_perform_85 : decode cX6_perform 85 = .ok (.aload_n 0, 1) := by decide +kernel
theorem dX6_perform_86 : decode cX6_perform 86 = .ok (.getfield 15, 3) := by decide +kernel
theorem dX6_perform_89 : decode cX6_perform 89 = .ok (.iconst 0, 1) := by decide +kernel
theorem dX6_perform_90 : decode cX6_perform 90 = .ok (.iaload, 1) := by decide +kernel
theorem dX6_perform_91 : decode cX6_perform 91 = .ok (.invokevirtual 83, 3) := by decide +kernel
theorem dX6_perform_94 : decode cX6_perform 94 = .ok (.ireturn, 1) := by decide +kernel
theorem dX6_perform_95 : decode cX6_perform 95 = .ok (.aload_n 2, 1) := by decide +kernel
theorem dX6_perform_96 : decode cX6_perform 96 = .ok (.aload_n 0, 1) := by decide +kernel
theorem dX6_perform_97 : decode cX6_perform 97 = .ok (.getfield 15, 3) := by decide +kernel
theorem dX6_perform_100 : decode cX6_perform 100 = .ok (.iconst 0, 1) := by decide +kernel
theorem dX6_perform_101 : decode cX6_perform 101 = .ok (.iaload, 1) := by decide +kernel
theorem dX6_perform_102 : decode cX6_perform 102 = .ok (.invokevirtual 86, 3) := by decide +kernel
theorem dX6_perform_105 : decode cX6_perform 105 = .ok (.ireturn, 1) := by decide +kernel
theorem dX6_perform_106 : decode cX6_perform 106 = .ok (.aload_n 2, 1) := by decide +kernel
theorem dX6_perform_107 : decode cX6_perform 107 = .ok (.aload_n 0, 1) := by decide +kernel
theorem dX6_perform_108 : decode cX6_perform 108 = .ok (.getfield 15, 3) := by decide +kernel
theorem dX6_perform_111 : decode cX6_perform 111 = .ok (.iconst 0, 1) := by decide +kernel
theorem dX6_perform_112 : decode cX6_perform 112 = .ok (.iaload, 1) := by decide +kernel
theorem dX6_perform_113 : decode cX6_perform 113 = .ok (.aload_n 0, 1) := by decide +kernel
theorem dX6_perform_114 : decode cX6_perform 114 = .ok (.getfield 15, 3) := by decide +kernel
theorem dX6_perform_117 : decode cX6_perform 117 = .ok (.iconst 1, 1) := by decide +kernel
theorem dX6_perform_118 : decode cX6_perform 118 = .ok (.iaload, 1) := by decide +kernel
theorem dX6_perform_119 : decode cX6_perform 119 = .ok (.aload_n 0, 1) := by decide +kernel
theorem dX6_perform_120 : decode cX6_perform 120 = .ok (.getfield 15, 3) := by decide +kernel
theorem dX6_perform_123 : decode cX6_perform 123 = .ok (.iconst 2, 1) := by decide +kernel
theorem dX6_perform_124 : decode cX6_perform 124 = .ok (.iaload, 1) := by decide +kernel
theorem dX6_perform_125 : decode cX6_perform 125 = .ok (.aload_n 0, 1) := by decide +kernel
theorem dX6_perform_126 : decode cX6_perform 126 = .ok (.getfield 15, 3) := by decide +kernel
theorem dX6_perform_129 : decode cX6_perform 129 = .ok (.iconst 3, 1) := by decide +kernel
theorem dX6_perform_130 : decode cX6_perform 130 = .ok (.iaload, 1) := by decide +kernel
theorem dX6_perform_131 : decode cX6_perform 131 = .ok (.aload_n 0, 1) := by decide +kernel
theorem dX6_perform_132 : decode cX6_perform 132 = .ok (.getfield 15, 3) := by decide +kernel
theorem dX6_perform_135 : decode cX6_perform 135 = .ok (.iconst 4, 1) := by decide +kernel
theorem dX6_perform_136 : decode cX6_perform 136 = .ok (.iaload, 1) := by decide +kernel
theorem dX6_perform_137 : decode cX6_perform 137 = .ok (.invokevirtual 89, 3) := by decide +kernel
theorem dX6_perform_140 : decode cX6_perform 140 = .ok (.ireturn, 1) := by decide +kernel
theorem dX6_perform_141 : decode cX6_perform 141 = .ok (.aload_n 2, 1) := by decide +kernel
theorem dX6_perform_142 : decode cX6_perform 142 = .ok (.aload_n 0, 1) := by decide +kernel
theorem dX6_perform_143 : decode cX6_perform 143 = .ok (.getfield 15, 3) := by decide +kernel
theorem dX6_perform_146 : decode cX6_perform 146 = .ok (.iconst 0, 1) := by decide +kernel
theorem dX6_perform_147 : decode cX6_perform 147 = .ok (.iaload, 1) := by decide +kernel
theorem dX6_perform_148 : decode cX6_perform 148 = .ok (.aload_n 0, 1) := by decide +kernel
theorem dX6_perform_149 : decode cX6_perform 149 = .ok (.getfield 15, 3) := by decide +kernel
theorem dX6_perform_152 : decode cX6_perform 152 = .ok (.iconst 1, 1) := by decide +kernel
theorem dX6_perform_153 : decode cX6_perform 153 = .ok (.iaload, 1) := by decide +kernel
theorem dX6_perform_154 : decode cX6_perform 154 = .ok (.aload_n 0, 1) := by decide +kernel
theorem dX6_perform_155 : decode cX6_perform 155 = .ok (.getfield 15, 3) := by decide +kernel
theorem dX6_perform_158 : decode cX6_perform 158 = .ok (.iconst 2, 1) := by decide +kernel
theorem dX6_perform_159 : decode cX6_perform 159 = .ok (.iaload, 1) := by decide +kernel
theorem dX6_perform_160 : decode cX6_perform 160 = .ok (.iconst 0, 1) := by decide +kernel
theorem dX6_perform_161 : decode cX6_perform 161 = .ok (.invokevirtual 93, 3) := by decide +kernel
theorem dX6_perform_164 : decode cX6_perform 164 = .ok (.ireturn, 1) := by decide +kernel
theorem dX6_perform_165 : decode cX6_perform 165 = .ok (.aload_n 2, 1) := by decide +kernel
theorem dX6_perform_166 : decode cX6_perform 166 = .ok (.aload_n 0, 1) := by decide +kernel
theorem dX6_perform_167 : decode cX6_perform 167 = .ok (.getfield 15, 3) := by decide +kernel
theorem dX6_perform_170 : decode cX6_perform 170 = .ok (.iconst 0, 1) := by decide +kernel
theorem dX6_perform_171 : decode cX6_perform 171 = .ok (.iaload, 1) := by decide +kernel
theorem dX6_perform_172 : decode cX6_perform 172 = .ok (.aload_n 0, 1) := by decide +kernel
theorem dX6_perform_173 : decode cX6_perform 173 = .ok (.getfield 15, 3) := by decide +kernel
theorem dX6_perform_176 : decode cX6_perform 176 = .ok (.iconst 1, 1) := by decide +kernel
theorem dX6_perform_177 : decode cX6_perform 177 = .ok (.iaload, 1) := by decide +kernel
theorem dX6_perform_178 : decode cX6_perform 178 = .ok (.invokevirtual 97, 3) := by decide +kernel
theorem dX6_perform_181 : decode cX6_perform 181 = .ok (.ireturn, 1) := by decide +kernel
theorem dX6_perform_182 : decode cX6_perform 182 = .ok (.aload_n 2, 1) := by decide +kernel
theorem dX6_perform_183 : decode cX6_perform 183 = .ok (.aload_n 0, 1) := by decide +kernel
theorem dX6_perform_184 : decode cX6_perform 184 = .ok (.getfield 15, 3) := by decide +kernel
theorem dX6_perform_187 : decode cX6_perform 187 = .ok (.iconst 0, 1) := by decide +kernel
theorem dX6_perform_188 : decode cX6_perform 188 = .ok (.iaload, 1) := by decide +kernel
theorem dX6_perform_189 : decode cX6_perform 189 = .ok (.aload_n 0, 1) := by decide +kernel
theorem dX6_perform_190 : decode cX6_perform 190 = .ok (.getfield 15, 3) := by decide +kernel
theorem dX6_perform_193 : decode cX6_perform 193 = .ok (.iconst 1, 1) := by decide +kernel
theorem dX6_perform_194 : decode cX6_perform 194 = .ok (.iaload, 1) := by decide +kernel
theorem dX6_perform_195 : decode cX6_perform 195 = .ok (.aload_n 0, 1) := by decide +kernel
theorem dX6_perform_196 : decode cX6_perform 196 = .ok (.getfield 15, 3) := by decide +kernel
theorem dX6_perform_199 : decode cX6_perform 199 = .ok (.iconst 2, 1) := by decide +kernel
theorem dX6_perform_200 : decode cX6_perform 200 = .ok (.iaload, 1) := by decide +kernel
theorem dX6_perform_201 : decode cX6_perform 201 = .ok (.invokevirtual 100, 3) := by decide +kernel
theorem dX6_perform_204 : decode cX6_perform 204 = .ok (.ireturn, 1) := by decide +kernel
theorem dX6_numbersOf_0 : decode cX6_numbersOf 0 = .ok (.iload_n 0, 1) := by decide +kernel
theorem dX6_numbersOf_1 : decode cX6_numbersOf 1 = .ok (.tableswitch 45 1 6 #[41, 39, 39, 43, 45, 41], 39) := by decide +kernel
theorem dX6_numbersOf_40 : decode cX6_numbersOf 40 = .ok (.iconst 1, 1) := by decide +kernel
theorem dX6_numbersOf_41 : decode cX6_numbersOf 41 = .ok (.ireturn, 1) := by decide +kernel
theorem dX6_numbersOf_42 : decode cX6_numbersOf 42 = .ok (.iconst 2, 1) := by decide +kernel
theorem dX6_numbersOf_43 : decode cX6_numbersOf 43 = .ok (.ireturn, 1) := by decide +kernel
theorem dX6_numbersOf_44 : decode cX6_numbersOf 44 = .ok (.iconst 5, 1) := by decide +kernel
theorem dX6_numbersOf_45 : decode cX6_numbersOf 45 = .ok (.ireturn, 1) := by decide +kernel
theorem dX6_numbersOf_46 : decode cX6_numbersOf 46 = .ok (.iconst 3, 1) := by decide +kernel
theorem dX6_numbersOf_47 : decode cX6_numbersOf 47 = .ok (.ireturn, 1) := by decide +kernel
set_option maxRecDepth 20000 in
theorem ggX6_commandHere_X6_spells : GoodIn wsX6_commandHere wsX6_spells := goodIn_r _ [5, 6, 7, 8, 9, 10, 11, 12, 13, 14, 15, 16, 17, 18, 19, 20, 21, 22, 23, 24, 25, 26, 27, 28, 29, 30, 31, 32, 33, 34, 35, 36, 37, 38, 39, 40, 41, 42, 43, 44, 45, 46, 47, 48, 49, 50, 51, 52, 53, 54, 55, 56, 57, 58, 59, 4, 60, 61, 62, 63, 64, 65, 66, 67, 68, 69, 70, 71] (by decide +kernel) (by decide +kernel)
set_option maxRecDepth 20000 in
theorem gX6_commandHere_X6_spells : GoodIn wsX6_commandHere (wsV RX6 105 RX6 yX6_spells wsX6_spells) := goodIn_app (goodIn_of _ (by decide +kernel)) ggX6_commandHere_X6_spells
theorem dX6_commandHere_0 : decode cX6_commandHere 0 = .ok (.aload_n 0, 1) := by decide +kernel
theorem dX6_commandHere_1 : decode cX6_commandHere 1 = .ok (.ldc 103, 2) := by decide +kernel
theorem dX6_commandHere_3 : decode cX6_commandHere 3 = .ok (.invokevirtual 105, 3) := by decide +kernel
theorem dX6_commandHere_6 : decode cX6_commandHere 6 = .ok (.ifCond .eq 5, 3) := by decide +kernel
theorem dX6_commandHere_9 : decode cX6_commandHere 9 = .ok (.iconst 0, 1) := by decide +kernel
theorem dX6_commandHere_10 : decode cX6_commandHere 10 = .ok (.ireturn, 1) := by decide +kernel
theorem dX6_commandHere_11 : decode cX6_commandHere 11 = .ok (.aload_n 0, 1) := by decide +kernel
theorem dX6_commandHere_12 : decode cX6_commandHere 12 = .ok (.ldc 109, 2) := by decide +kernel
theorem dX6_commandHere_14 : decode cX6_commandHere 14 = .ok (.invokevirtual 105, 3) := by decide +kernel
theorem dX6_commandHere_17 : decode cX6_commandHere 17 = .ok (.ifCond .eq 5, 3) := by decide +kernel
theorem dX6_commandHere_20 : decode cX6_commandHere 20 = .ok (.iconst 1, 1) := by decide +kernel
theorem dX6_commandHere_21 : decode cX6_commandHere 21 = .ok (.ireturn, 1) := by decide +kernel
theorem dX6_commandHere_22 : decode cX6_commandHere 22 = .ok (.aload_n 0, 1) := by decide +kernel
theorem dX6_commandHere_23 : decode cX6_commandHere 23 = .ok (.ldc 111, 2) := by decide +kernel
theorem dX6_commandHere_25 : decode cX6_commandHere 25 = .ok (.invokevirtual 105, 3) := by decide +kernel
theorem dX6_commandHere_28 : decode cX6_commandHere 28 = .ok (.ifCond .eq 5, 3) := by decide +kernel
theorem dX6_commandHere_31 : decode cX6_commandHere 31 = .ok (.iconst 2, 1) := by decide +kernel
theorem dX6_commandHere_32 : decode cX6_commandHere 32 = .ok (.ireturn, 1) := by decide +kernel
theorem dX6_commandHere_33 : decode cX6_commandHere 33 = .ok (.aload_n 0, 1) := by decide +kernel
theorem dX6_commandHere_34 : decode cX6_commandHere 34 = .ok (.ldc 113, 2) := by decide +kernel
theorem dX6_commandHere_36 : decode cX6_commandHere 36 = .ok (.invokevirtual 105, 3) := by decide +kernel
theorem dX6_commandHere_39 : decode cX6_commandHere 39 = .ok (.ifCond .eq 5, 3) := by decide +kernel
theorem dX6_commandHere_42 : decode cX6_commandHere 42 = .ok (.iconst 3, 1) := by decide +kernel
theorem dX6_commandHere_43 : decode cX6_commandHere 43 = .ok (.ireturn, 1) := by decide +kernel
theorem dX6_commandHere_44 : decode cX6_commandHere 44 = .ok (.aload_n 0, 1) := by decide +kernel
theorem dX6_commandHere_45 : decode cX6_commandHere 45 = .ok (.ldc 115, 2) := by decide +kernel
theorem dX6_commandHere_47 : decode cX6_commandHere 47 = .ok (.invokevirtual 105, 3) := by decide +kernel
theorem dX6_commandHere_50 : decode cX6_commandHere 50 = .ok (.ifCond .eq 5, 3) := by decide +kernel
theorem dX6_commandHere_53 : decode cX6_commandHere 53 = .ok (.iconst 4, 1) := by decide +kernel
theorem dX6_commandHere_54 : decode cX6_commandHere 54 = .ok (.ireturn, 1) := by decide +kernel
theorem dX6_commandHere_55 : decode cX6_commandHere 55 = .ok (.aload_n 0, 1) := by decide +kernel
theorem dX6_commandHere_56 : decode cX6_commandHere 56 = .ok (.ldc 117, 2) := by decide +kernel
theorem dX6_commandHere_58 : decode cX6_commandHere 58 = .ok (.invokevirtual 105, 3) := by decide +kernel
theorem dX6_commandHere_61 : decode cX6_commandHere 61 = .ok (.ifCond .eq 5, 3) := by decide +kernel
theorem dX6_commandHere_64 : decode cX6_commandHere 64 = .ok (.iconst 5, 1) := by decide +kernel
theorem dX6_commandHere_65 : decode cX6_commandHere 65 = .ok (.ireturn, 1) := by decide +kernel
theorem dX6_commandHere_66 : decode cX6_commandHere 66 = .ok (.aload_n 0, 1) := by decide +kernel
theorem dX6_commandHere_67 : decode cX6_commandHere 67 = .ok (.ldc 119, 2) := by decide +kernel
theorem dX6_commandHere_69 : decode cX6_commandHere 69 = .ok (.invokevirtual 105, 3) := by decide +kernel
theorem dX6_commandHere_72 : decode cX6_commandHere 72 = .ok (.ifCond .eq 6, 3) := by decide +kernel
theorem dX6_commandHere_75 : decode cX6_commandHere 75 = .ok (.bipush 6, 2) := by decide +kernel
theorem dX6_commandHere_77 : decode cX6_commandHere 77 = .ok (.ireturn, 1) := by decide +kernel
theorem dX6_commandHere_78 : decode cX6_commandHere 78 = .ok (.aload_n 0, 1) := by decide +kernel
theorem dX6_commandHere_79 : decode cX6_commandHere 79 = .ok (.ldc 121, 2) := by decide +kernel
theorem dX6_commandHere_81 : decode cX6_commandHere 81 = .ok (.invokevirtual 105, 3) := by decide +kernel
theorem dX6_commandHere_84 : decode cX6_commandHere 84 = .ok (.ifCond .eq 8, 3) := by decide +kernel
theorem dX6_commandHere_87 : decode cX6_commandHere 87 = .ok (.bipush 7, 2) := by decide +kernel
theorem dX6_commandHere_89 : decode cX6_commandHere 89 = .ok (.goto 4, 3) := by decide +kernel
theorem dX6_commandHere_92 : decode cX6_commandHere 92 = .ok (.iconst (-1), 1) := by decide +kernel
theorem dX6_commandHere_93 : decode cX6_commandHere 93 = .ok (.ireturn, 1) := by decide +kernel
set_option maxRecDepth 20000 in
theorem ggX6_spells_J0_length_8abf5 : GoodIn wsX6_spells wsJ0_length_8abf5 := goodIn_r _ [7, 8, 9, 10, 11, 6, 12, 13, 14] (by decide +kernel) (by decide +kernel)
set_option maxRecDepth 20000 in
theorem gX6_spells_J0_length_8abf5 : GoodIn wsX6_spells (wsV RX6 123 RJ0 yJ0_length_8abf5 wsJ0_length_8abf5) := goodIn_app (goodIn_of _ (by decide +kernel)) ggX6_spells_J0_length_8abf5
set_option maxRecDepth 20000 in
theorem ggX6_spells_J0_charAt_5068e : GoodIn wsX6_spells wsJ0_charAt_5068e := goodIn_r _ [18, 8, 19, 20, 21, 6, 22, 13, 14, 23, 24, 25, 26, 27, 28, 29, 30, 31, 32, 33, 34, 35, 36, 37, 38, 39, 40, 41, 42, 43, 44, 45, 46, 47, 48, 49, 50, 51] (by decide +kernel) (by decide +kernel)
set_option maxRecDepth 20000 in
theorem gX6_spells_J0_charAt_5068e : GoodIn wsX6_spells (wsV RX6 127 RJ0 yJ0_charAt_5068e wsJ0_charAt_5068e) := goodIn_app (goodIn_of _ (by decide +kernel)) ggX6_spells_J0_charAt_5068e
set_option maxRecDepth 20000 in
theorem ggX6_spells_X6_signAt : GoodIn wsX6_spells wsX6_signAt := goodIn_r _ [56, 57, 58, 59, 60, 61, 62, 63, 64, 65, 66, 67] (by decide +kernel) (by decide +kernel)
set_option maxRecDepth 20000 in
theorem gX6_spells_X6_signAt : GoodIn wsX6_spells (wsV RX6 131 RX6 yX6_signAt wsX6_signAt) := goodIn_app (goodIn_of _ (by decide +kernel)) ggX6_spells_X6_signAt
theorem dX6_spells_0 : decode cX6_spells 0 = .ok (.aload_n 1, 1) := by decide +kernel
theorem dX6_spells_1 : decode cX6_spells 1 = .ok (.invokevirtual 123, 3) := by decide +kernel
theorem dX6_spells_4 : decode cX6_spells 4 = .ok (.aload_n 0, 1) := by decide +kernel
theorem dX6_spells_5 : decode cX6_spells 5 = .ok (.getfield 36, 3) := by decide +kernel
theorem dX6_spells_8 : decode cX6_spells 8 = .ok (.aload_n 0, 1) := by decide +kernel
theorem dX6_spells_9 : decode cX6_spells 9 = .ok (.getfield 42, 3) := by decide +kernel
theorem dX6_spells_12 : decode cX6_spells 12 = .ok (.isub, 1) := by decide +kernel
theorem dX6_spells_13 : decode cX6_spells 13 = .ok (.if_icmp .eq 5, 3) := by decide +kernel
theorem dX6_spells_16 : decode cX6_spells 16 = .ok (.iconst 0, 1) := by decide +kernel
theorem dX6_spells_17 : decode cX6_spells 17 = .ok (.ireturn, 1) := by decide +kernel
theorem dX6_spells_18 : decode cX6_spells 18 = .ok (.iconst 0, 1) := by decide +kernel
theorem dX6_spells_19 : decode cX6_spells 19 = .ok (.istore_n 2, 1) := by decide +kernel
theorem dX6_spells_20 : decode cX6_spells 20 = .ok (.iload_n 2, 1) := by decide +kernel
theorem dX6_spells_21 : decode cX6_spells 21 = .ok (.aload_n 1, 1) := by decide +kernel
theorem dX6_spells_22 : decode cX6_spells 22 = .ok (.invokevirtual 123, 3) := by decide +kernel
theorem dX6_spells_25 : decode cX6_spells 25 = .ok (.if_icmp .ge 29, 3) := by decide +kernel
theorem dX6_spells_28 : decode cX6_spells 28 = .ok (.aload_n 1, 1) := by decide +kernel
theorem dX6_spells_29 : decode cX6_spells 29 = .ok (.iload_n 2, 1) := by decide +kernel
theorem dX6_spells_30 : decode cX6_spells 30 = .ok (.invokevirtual 127, 3) := by decide +kernel
theorem dX6_spells_33 : decode cX6_spells 33 = .ok (.aload_n 0, 1) := by decide +kernel
theorem dX6_spells_34 : decode cX6_spells 34 = .ok (.aload_n 0, 1) := by decide +kernel
theorem dX6_spells_35 : decode cX6_spells 35 = .ok (.getfield 42, 3) := by decide +kernel
theorem dX6_spells_38 : decode cX6_spells 38 = .ok (.iload_n 2, 1) := by decide +kernel
theorem dX6_spells_39 : decode cX6_spells 39 = .ok (.iadd, 1) := by decide +kernel
theorem dX6_spells_40 : decode cX6_spells 40 = .ok (.invokevirtual 131, 3) := by decide +kernel
theorem dX6_spells_43 : decode cX6_spells 43 = .ok (.if_icmp .eq 5, 3) := by decide +kernel
theorem dX6_spells_46 : decode cX6_spells 46 = .ok (.iconst 0, 1) := by decide +kernel
theorem dX6_spells_47 : decode cX6_spells 47 = .ok (.ireturn, 1) := by decide +kernel
theorem dX6_spells_48 : decode cX6_spells 48 = .ok (.iinc 2 1, 3) := by decide +kernel
theorem dX6_spells_51 : decode cX6_spells 51 = .ok (.goto (-31), 3) := by decide +kernel
theorem dX6_spells_54 : decode cX6_spells 54 = .ok (.iconst 1, 1) := by decide +kernel
theorem dX6_spells_55 : decode cX6_spells 55 = .ok (.ireturn, 1) := by decide +kernel
set_option maxRecDepth 20000 in
theorem ggX6_readNumbers_X6_readToken : GoodIn wsX6_readNumbers wsX6_readToken := goodIn_r _ [6, 7, 8, 9, 10, 11, 12, 5, 13, 14, 15, 16, 17, 18, 19, 20, 21, 22, 23, 32, 33, 34, 35, 36, 37] (by decide +kernel) (by decide +kernel)
set_option maxRecDepth 20000 in
theorem gX6_readNumbers_X6_readToken : GoodIn wsX6_readNumbers (wsV RX6 39 RX6 yX6_readToken wsX6_readToken) := goodIn_app (goodIn_of _ (by decide +kernel)) ggX6_readNumbers_X6_readToken
set_option maxRecDepth 20000 in
theorem ggX6_readNumbers_X6_isNumber : GoodIn wsX6_readNumbers wsX6_isNumber := goodIn_r _ [27, 7, 8, 10, 11, 12, 5, 13, 9, 14, 15, 16, 17, 21, 22, 23, 32, 33, 34, 35, 36, 37] (by decide +kernel) (by decide +kernel)
set_option maxRecDepth 20000 in
theorem gX6_readNumbers_X6_isNumber : GoodIn wsX6_readNumbers (wsV RX6 134 RX6 yX6_isNumber wsX6_isNumber) := goodIn_app (goodIn_of _ (by decide +kernel)) ggX6_readNumbers_X6_isNumber
set_option maxRecDepth 20000 in
theorem ggX6_readNumbers_X6_value : GoodIn wsX6_readNumbers wsX6_value := goodIn_r _ [31, 8, 7, 10, 11, 12, 5, 13, 9, 14, 15, 16, 17, 32, 33, 34, 35, 36, 37] (by decide +kernel) (by decide +kernel)
set_option maxRecDepth 20000 in
theorem gX6_readNumbers_X6_value : GoodIn wsX6_readNumbers (wsV RX6 137 RX6 yX6_value wsX6_value) := goodIn_app (goodIn_of _ (by decide +kernel)) ggX6_readNumbers_X6_value
theorem dX6_readNumbers_0 : decode cX6_readNumbers 0 = .ok (.iconst 0, 1) := by decide +kernel
theorem dX6_readNumbers_1 : decode cX6_readNumbers 1 = .ok (.istore_n 2, 1) := by decide +kernel
theorem dX6_readNumbers_2 : decode cX6_readNumbers 2 = .ok (.iload_n 2, 1) := by decide +kernel
theorem dX6_readNumbers_3 : decode cX6_readNumbers 3 = .ok (.iconst 5, 1) := by decide +kernel
theorem dX6_readNumbers_4 : decode cX6_readNumbers 4 = .ok (.if_icmp .ge 37, 3) := by decide +kernel
theorem dX6_readNumbers_7 : decode cX6_readNumbers 7 = .ok (.iload_n 2, 1) := by decide +kernel
theorem dX6_readNumbers_8 : decode cX6_readNumbers 8 = .ok (.iload_n 1, 1) := by decide +kernel
theorem dX6_readNumbers_9 : decode cX6_readNumbers 9 = .ok (.if_icmp .ge 32, 3) := by decide +kernel
theorem dX6_readNumbers_12 : decode cX6_readNumbers 12 = .ok (.aload_n 0, 1) := by decide +kernel
theorem dX6_readNumbers_13 : decode cX6_readNumbers 13 = .ok (.invokevirtual 39, 3) := by decide +kernel
theorem dX6_readNumbers_16 : decode cX6_readNumbers 16 = .ok (.aload_n 0, 1) := by decide +kernel
theorem dX6_readNumbers_17 : decode cX6_readNumbers 17 = .ok (.invokevirtual 134, 3) := by decide +kernel
theorem dX6_readNumbers_20 : decode cX6_readNumbers 20 = .ok (.ifCond .ne 5, 3) := by decide +kernel
theorem dX6_readNumbers_23 : decode cX6_readNumbers 23 = .ok (.iconst 0, 1) := by decide +kernel
theorem dX6_readNumbers_24 : decode cX6_readNumbers 24 = .ok (.ireturn, 1) := by decide +kernel
theorem dX6_readNumbers_25 : decode cX6_readNumbers 25 = .ok (.aload_n 0, 1) := by decide +kernel
theorem dX6_readNumbers_26 : decode cX6_readNumbers 26 = .ok (.getfield 15, 3) := by decide +kernel
theorem dX6_readNumbers_29 : decode cX6_readNumbers 29 = .ok (.iload_n 2, 1) := by decide +kernel
theorem dX6_readNumbers_30 : decode cX6_readNumbers 30 = .ok (.aload_n 0, 1) := by decide +kernel
theorem dX6_readNumbers_31 : decode cX6_readNumbers 31 = .ok (.invokevirtual 137, 3) := by decide +kernel
theorem dX6_readNumbers_34 : decode cX6_readNumbers 34 = .ok (.iastore, 1) := by decide +kernel
theorem dX6_readNumbers_35 : decode cX6_readNumbers 35 = .ok (.iinc 2 1, 3) := by decide +kernel
theorem dX6_readNumbers_38 : decode cX6_readNumbers 38 = .ok (.goto (-36), 3) := by decide +kernel
theorem dX6_readNumbers_41 : decode cX6_readNumbers 41 = .ok (.iconst 1, 1) := by decide +kernel
theorem dX6_readNumbers_42 : decode cX6_readNumbers 42 = .ok (.ireturn, 1) := by decide +kernel
set_option maxRecDepth 20000 in
theorem ggX6_readEnd_X6_readToken : GoodIn wsX6_readEnd wsX6_readToken := goodIn_r _ [6, 7, 1, 8, 9, 10, 11, 5, 12, 13, 14, 15, 16, 17, 18, 19, 20, 21, 22, 23, 24, 25, 26, 27, 28] (by decide +kernel) (by decide +kernel)
set_option maxRecDepth 20000 in
theorem gX6_readEnd_X6_readToken : GoodIn wsX6_readEnd (wsV RX6 39 RX6 yX6_readToken wsX6_readToken) := goodIn_app (goodIn_of _ (by decide +kernel)) ggX6_readEnd_X6_readToken
set_option maxRecDepth 20000 in
theorem ggX6_readEnd_X6_signAt : GoodIn wsX6_readEnd wsX6_signAt := goodIn_r _ [12, 8, 13, 14, 15, 16, 23, 24, 25, 26, 27, 28] (by decide +kernel) (by decide +kernel)
set_option maxRecDepth 20000 in
theorem gX6_readEnd_X6_signAt : GoodIn wsX6_readEnd (wsV RX6 131 RX6 yX6_signAt wsX6_signAt) := goodIn_app (goodIn_of _ (by decide +kernel)) ggX6_readEnd_X6_signAt
theorem dX6_readEnd_0 : decode cX6_readEnd 0 = .ok (.aload_n 0, 1) := by decide +kernel
theorem dX6_readEnd_1 : decode cX6_readEnd 1 = .ok (.invokevirtual 39, 3) := by decide +kernel
theorem dX6_readEnd_4 : decode cX6_readEnd 4 = .ok (.aload_n 0, 1) := by decide +kernel
theorem dX6_readEnd_5 : decode cX6_readEnd 5 = .ok (.aload_n 0, 1) := by decide +kernel
theorem dX6_readEnd_6 : decode cX6_readEnd 6 = .ok (.getfield 42, 3) := by decide +kernel
theorem dX6_readEnd_9 : decode cX6_readEnd 9 = .ok (.invokevirtual 131, 3) := by decide +kernel
theorem dX6_readEnd_12 : decode cX6_readEnd 12 = .ok (.bipush 59, 2) := by decide +kernel
theorem dX6_readEnd_14 : decode cX6_readEnd 14 = .ok (.if_icmp .ne 7, 3) := by decide +kernel
theorem dX6_readEnd_17 : decode cX6_readEnd 17 = .ok (.iconst 1, 1) := by decide +kernel
theorem dX6_readEnd_18 : decode cX6_readEnd 18 = .ok (.goto 4, 3) := by decide +kernel
theorem dX6_readEnd_21 : decode cX6_readEnd 21 = .ok (.iconst 0, 1) := by decide +kernel
theorem dX6_readEnd_22 : decode cX6_readEnd 22 = .ok (.ireturn, 1) := by decide +kernel
set_option maxRecDepth 20000 in
theorem ggX6_isNumber_X6_signAt : GoodIn wsX6_isNumber wsX6_signAt := goodIn_r _ [7, 8, 9, 10, 11, 12, 16, 17, 18, 19, 20, 21] (by decide +kernel) (by decide +kernel)
set_option maxRecDepth 20000 in
theorem gX6_isNumber_X6_signAt : GoodIn wsX6_isNumber (wsV RX6 131 RX6 yX6_signAt wsX6_signAt) := goodIn_app (goodIn_of _ (by decide +kernel)) ggX6_isNumber_X6_signAt
set_option maxRecDepth 20000 in
theorem ggX6_isNumber_X6_isDigit : GoodIn wsX6_isNumber wsX6_isDigit := goodIn_r _ [15] (by decide +kernel) (by decide +kernel)
set_option maxRecDepth 20000 in
theorem gX6_isNumber_X6_isDigit : GoodIn wsX6_isNumber (va_wsS RX6 140 yX6_isDigit wsX6_isDigit) := goodIn_app (goodIn_of _ (by decide +kernel)) ggX6_isNumber_X6_isDigit
theorem dX6_isNumber_0 : decode cX6_isNumber 0 = .ok (.aload_n 0, 1) := by decide +kernel
theorem dX6_isNumber_1 : decode cX6_isNumber 1 = .ok (.getfield 36, 3) := by decide +kernel
theorem dX6_isNumber_4 : decode cX6_isNumber 4 = .ok (.aload_n 0, 1) := by decide +kernel
theorem dX6_isNumber_5 : decode cX6_isNumber 5 = .ok (.getfield 42, 3) := by decide +kernel
theorem dX6_isNumber_8 : decode cX6_isNumber 8 = .ok (.isub, 1) := by decide +kernel
theorem dX6_isNumber_9 : decode cX6_isNumber 9 = .ok (.istore_n 1, 1) := by decide +kernel
theorem dX6_isNumber_10 : decode cX6_isNumber 10 = .ok (.aload_n 0, 1) := by decide +kernel
theorem dX6_isNumber_11 : decode cX6_isNumber 11 = .ok (.aload_n 0, 1) := by decide +kernel
theorem dX6_isNumber_12 : decode cX6_isNumber 12 = .ok (.getfield 42, 3) := by decide +kernel
theorem dX6_isNumber_15 : decode cX6_isNumber 15 = .ok (.invokevirtual 131, 3) := by decide +kernel
