set_option maxRecDepth 20000 in
theorem ggX0_weighBundle_X1_keep : GoodIn wsX0_weighBundle wsX1_keep := goodIn_r _ [95, 96, 97, 98, 99, 100, 115, 116, 117, 118, 119, 120] (by decide +kernel) (by decide +kernel)
set_option maxRecDepth 20000 in
theorem gX0_weighBundle_X1_keep : GoodIn wsX0_weighBundle (wsV RX0 123 RX1 yX1_keep wsX1_keep) := goodIn_app (goodIn_of _ (by decide +kernel)) ggX0_weighBundle_X1_keep
theorem dX0_weighBundle_0 : decode cX0_weighBundle 0 = .ok (.aload_n 0, 1) := by decide +kernel
theorem dX0_weighBundle_1 : decode cX0_weighBundle 1 = .ok (.iload_n 1, 1) := by decide +kernel
theorem dX0_weighBundle_2 : decode cX0_weighBundle 2 = .ok (.invokevirtual 106, 3) := by decide +kernel
theorem dX0_weighBundle_5 : decode cX0_weighBundle 5 = .ok (.astore 5, 2) := by decide +kernel
theorem dX0_weighBundle_7 : decode cX0_weighBundle 7 = .ok (.aload_n 0, 1) := by decide +kernel
theorem dX0_weighBundle_8 : decode cX0_weighBundle 8 = .ok (.iload_n 2, 1) := by decide +kernel
theorem dX0_weighBundle_9 : decode cX0_weighBundle 9 = .ok (.invokevirtual 72, 3) := by decide +kernel
theorem dX0_weighBundle_12 : decode cX0_weighBundle 12 = .ok (.astore 6, 2) := by decide +kernel
theorem dX0_weighBundle_14 : decode cX0_weighBundle 14 = .ok (.aload 5, 2) := by decide +kernel
theorem dX0_weighBundle_16 : decode cX0_weighBundle 16 = .ok (.ifnull 19, 3) := by decide +kernel
theorem dX0_weighBundle_19 : decode cX0_weighBundle 19 = .ok (.aload 6, 2) := by decide +kernel
theorem dX0_weighBundle_21 : decode cX0_weighBundle 21 = .ok (.ifnull 14, 3) := by decide +kernel
theorem dX0_weighBundle_24 : decode cX0_weighBundle 24 = .ok (.iload_n 3, 1) := by decide +kernel
theorem dX0_weighBundle_25 : decode cX0_weighBundle 25 = .ok (.iconst 1, 1) := by decide +kernel
theorem dX0_weighBundle_26 : decode cX0_weighBundle 26 = .ok (.sipush 500, 3) := by decide +kernel
theorem dX0_weighBundle_29 : decode cX0_weighBundle 29 = .ok (.invokestatic 68, 3) := by decide +kernel
theorem dX0_weighBundle_32 : decode cX0_weighBundle 32 = .ok (.ifCond .ne 6, 3) := by decide +kernel
theorem dX0_weighBundle_35 : decode cX0_weighBundle 35 = .ok (.ldc 76, 2) := by decide +kernel
theorem dX0_weighBundle_37 : decode cX0_weighBundle 37 = .ok (.ireturn, 1) := by decide +kernel
theorem dX0_weighBundle_38 : decode cX0_weighBundle 38 = .ok (.iload_n 3, 1) := by decide +kernel
theorem dX0_weighBundle_39 : decode cX0_weighBundle 39 = .ok (.aload 6, 2) := by decide +kernel
theorem dX0_weighBundle_41 : decode cX0_weighBundle 41 = .ok (.getfield 80, 3) := by decide +kernel
theorem dX0_weighBundle_44 : decode cX0_weighBundle 44 = .ok (.imul, 1) := by decide +kernel
theorem dX0_weighBundle_45 : decode cX0_weighBundle 45 = .ok (.istore 7, 2) := by decide +kernel
theorem dX0_weighBundle_47 : decode cX0_weighBundle 47 = .ok (.iload 4, 2) := by decide +kernel
theorem dX0_weighBundle_49 : decode cX0_weighBundle 49 = .ok (.iload 7, 2) := by decide +kernel
theorem dX0_weighBundle_51 : decode cX0_weighBundle 51 = .ok (.ineg, 1) := by decide +kernel
theorem dX0_weighBundle_52 : decode cX0_weighBundle 52 = .ok (.iload 7, 2) := by decide +kernel
theorem dX0_weighBundle_54 : decode cX0_weighBundle 54 = .ok (.invokestatic 68, 3) := by decide +kernel
theorem dX0_weighBundle_57 : decode cX0_weighBundle 57 = .ok (.ifCond .ne 6, 3) := by decide +kernel
theorem dX0_weighBundle_60 : decode cX0_weighBundle 60 = .ok (.ldc 76, 2) := by decide +kernel
theorem dX0_weighBundle_62 : decode cX0_weighBundle 62 = .ok (.ireturn, 1) := by decide +kernel
theorem dX0_weighBundle_63 : decode cX0_weighBundle 63 = .ok (.aload_n 0, 1) := by decide +kernel
theorem dX0_weighBundle_64 : decode cX0_weighBundle 64 = .ok (.getfield 20, 3) := by decide +kernel
theorem dX0_weighBundle_67 : decode cX0_weighBundle 67 = .ok (.getfield 83, 3) := by decide +kernel
theorem dX0_weighBundle_70 : decode cX0_weighBundle 70 = .ok (.iload_n 3, 1) := by decide +kernel
theorem dX0_weighBundle_71 : decode cX0_weighBundle 71 = .ok (.aload 6, 2) := by decide +kernel
theorem dX0_weighBundle_73 : decode cX0_weighBundle 73 = .ok (.getfield 77, 3) := by decide +kernel
theorem dX0_weighBundle_76 : decode cX0_weighBundle 76 = .ok (.imul, 1) := by decide +kernel
theorem dX0_weighBundle_77 : decode cX0_weighBundle 77 = .ok (.iload 4, 2) := by decide +kernel
theorem dX0_weighBundle_79 : decode cX0_weighBundle 79 = .ok (.iadd, 1) := by decide +kernel
theorem dX0_weighBundle_80 : decode cX0_weighBundle 80 = .ok (.aload_n 0, 1) := by decide +kernel
theorem dX0_weighBundle_81 : decode cX0_weighBundle 81 = .ok (.getfield 20, 3) := by decide +kernel
theorem dX0_weighBundle_84 : decode cX0_weighBundle 84 = .ok (.getfield 89, 3) := by decide +kernel
theorem dX0_weighBundle_87 : decode cX0_weighBundle 87 = .ok (.iadd, 1) := by decide +kernel
theorem dX0_weighBundle_88 : decode cX0_weighBundle 88 = .ok (.invokestatic 113, 3) := by decide +kernel
theorem dX0_weighBundle_91 : decode cX0_weighBundle 91 = .ok (.istore 8, 2) := by decide +kernel
theorem dX0_weighBundle_93 : decode cX0_weighBundle 93 = .ok (.aload_n 0, 1) := by decide +kernel
theorem dX0_weighBundle_94 : decode cX0_weighBundle 94 = .ok (.getfield 20, 3) := by decide +kernel
theorem dX0_weighBundle_97 : decode cX0_weighBundle 97 = .ok (.iload 8, 2) := by decide +kernel
theorem dX0_weighBundle_99 : decode cX0_weighBundle 99 = .ok (.aload 6, 2) := by decide +kernel
theorem dX0_weighBundle_101 : decode cX0_weighBundle 101 = .ok (.aload_n 0, 1) := by decide +kernel
theorem dX0_weighBundle_102 : decode cX0_weighBundle 102 = .ok (.getfield 62, 3) := by decide +kernel
theorem dX0_weighBundle_105 : decode cX0_weighBundle 105 = .ok (.invokevirtual 116, 3) := by decide +kernel
theorem dX0_weighBundle_108 : decode cX0_weighBundle 108 = .ok (.istore 9, 2) := by decide +kernel
theorem dX0_weighBundle_110 : decode cX0_weighBundle 110 = .ok (.aload 5, 2) := by decide +kernel
theorem dX0_weighBundle_112 : decode cX0_weighBundle 112 = .ok (.iload 9, 2) := by decide +kernel
theorem dX0_weighBundle_114 : decode cX0_weighBundle 114 = .ok (.invokevirtual 120, 3) := by decide +kernel
theorem dX0_weighBundle_117 : decode cX0_weighBundle 117 = .ok (.aload 5, 2) := by decide +kernel
theorem dX0_weighBundle_119 : decode cX0_weighBundle 119 = .ok (.iload_n 2, 1) := by decide +kernel
theorem dX0_weighBundle_120 : decode cX0_weighBundle 120 = .ok (.iload_n 3, 1) := by decide +kernel
theorem dX0_weighBundle_121 : decode cX0_weighBundle 121 = .ok (.iload 8, 2) := by decide +kernel
theorem dX0_weighBundle_123 : decode cX0_weighBundle 123 = .ok (.iload 9, 2) := by decide +kernel
theorem dX0_weighBundle_125 : decode cX0_weighBundle 125 = .ok (.invokevirtual 123, 3) := by decide +kernel
theorem dX0_weighBundle_128 : decode cX0_weighBundle 128 = .ok (.aload_n 0, 1) := by decide +kernel
theorem dX0_weighBundle_129 : decode cX0_weighBundle 129 = .ok (.dup, 1) := by decide +kernel
theorem dX0_weighBundle_130 : decode cX0_weighBundle 130 = .ok (.getfield 65, 3) := by decide +kernel
theorem dX0_weighBundle_133 : decode cX0_weighBundle 133 = .ok (.iload 9, 2) := by decide +kernel
theorem dX0_weighBundle_135 : decode cX0_weighBundle 135 = .ok (.iload_n 3, 1) := by decide +kernel
theorem dX0_weighBundle_136 : decode cX0_weighBundle 136 = .ok (.isub, 1) := by decide +kernel
theorem dX0_weighBundle_137 : decode cX0_weighBundle 137 = .ok (.iadd, 1) := by decide +kernel
theorem dX0_weighBundle_138 : decode cX0_weighBundle 138 = .ok (.putfield 65, 3) := by decide +kernel
theorem dX0_weighBundle_141 : decode cX0_weighBundle 141 = .ok (.iload 9, 2) := by decide +kernel
theorem dX0_weighBundle_143 : decode cX0_weighBundle 143 = .ok (.ireturn, 1) := by decide +kernel
set_option maxRecDepth 20000 in
theorem ggX0_settleClaim_X0_customerAt : GoodIn wsX0_settleClaim wsX0_customerAt := goodIn_r _ [14, 15, 16, 17, 18, 19, 96, 97, 98, 99, 100, 101, 102, 103, 104] (by decide +kernel) (by decide +kernel)
set_option maxRecDepth 20000 in
theorem gX0_settleClaim_X0_customerAt : GoodIn wsX0_settleClaim (wsV RX0 106 RX0 yX0_customerAt wsX0_customerAt) := goodIn_app (goodIn_of _ (by decide +kernel)) ggX0_settleClaim_X0_customerAt
set_option maxRecDepth 20000 in
theorem ggX0_settleClaim_X9_within : GoodIn wsX0_settleClaim wsX9_within := goodIn_r _ [19] (by decide +kernel) (by decide +kernel)
set_option maxRecDepth 20000 in
theorem gX0_settleClaim_X9_within_n68 : GoodIn wsX0_settleClaim (wsX9_within) := ggX0_settleClaim_X9_within
set_option maxRecDepth 20000 in
theorem ggX0_settleClaim_X0_kindAt : GoodIn wsX0_settleClaim wsX0_kindAt := goodIn_r _ [23, 24, 17, 18, 19, 96, 97, 98, 99, 100, 101, 102, 103, 104] (by decide +kernel) (by decide +kernel)
set_option maxRecDepth 20000 in
theorem gX0_settleClaim_X0_kindAt : GoodIn wsX0_settleClaim (wsV RX0 72 RX0 yX0_kindAt wsX0_kindAt) := goodIn_app (goodIn_of _ (by decide +kernel)) ggX0_settleClaim_X0_kindAt
set_option maxRecDepth 20000 in
theorem ggX0_settleClaim_X0_allows : GoodIn wsX0_settleClaim wsX0_allows := goodIn_r _ [28, 29, 30, 31, 32, 33, 34, 35, 36, 37, 38, 39, 40, 41, 42, 43, 44, 45, 46, 47, 48, 49, 50, 51, 52, 18, 53, 54, 55, 56, 57, 58, 59, 60, 61, 62, 63, 64, 65, 66, 67, 68, 69, 70, 71, 72, 73, 17, 19, 96, 97, 98, 99, 100, 101, 102, 103, 104, 105, 106, 107, 108, 109] (by decide +kernel) (by decide +kernel)
set_option maxRecDepth 20000 in
theorem gX0_settleClaim_X0_allows : GoodIn wsX0_settleClaim (wsV RX0 141 RX0 yX0_allows wsX0_allows) := goodIn_app (goodIn_of _ (by decide +kernel)) ggX0_settleClaim_X0_allows
set_option maxRecDepth 20000 in
theorem ggX0_settleClaim_X1_gain : GoodIn wsX0_settleClaim wsX1_gain := goodIn_r _ [78, 79, 80, 37, 38, 39, 90, 91, 92, 93, 94, 95] (by decide +kernel) (by decide +kernel)
set_option maxRecDepth 20000 in
theorem gX0_settleClaim_X1_gain : GoodIn wsX0_settleClaim (wsV RX0 120 RX1 yX1_gain wsX1_gain) := goodIn_app (goodIn_of _ (by decide +kernel)) ggX0_settleClaim_X1_gain
set_option maxRecDepth 20000 in
theorem ggX0_settleClaim_X1_isNearer : GoodIn wsX0_settleClaim wsX1_isNearer := goodIn_r _ [84, 85, 86, 87, 38, 88, 89, 90, 91, 92, 93, 94, 95] (by decide +kernel) (by decide +kernel)
set_option maxRecDepth 20000 in
theorem gX0_settleClaim_X1_isNearer : GoodIn wsX0_settleClaim (wsV RX0 148 RX1 yX1_isNearer wsX1_isNearer) := goodIn_app (goodIn_of _ (by decide +kernel)) ggX0_settleClaim_X1_isNearer
theorem dX0_settleClaim_0 : decode cX0_settleClaim 0 = .ok (.aload_n 0, 1) := by decide +kernel
theorem dX0_settleClaim_1 : decode cX0_settleClaim 1 = .ok (.iload_n 1, 1) := by decide +kernel
theorem dX0_settleClaim_2 : decode cX0_settleClaim 2 = .ok (.invokevirtual 106, 3) := by decide +kernel
theorem dX0_settleClaim_5 : decode cX0_settleClaim 5 = .ok (.astore_n 3, 1) := by decide +kernel
theorem dX0_settleClaim_6 : decode cX0_settleClaim 6 = .ok (.aload_n 3, 1) := by decide +kernel
theorem dX0_settleClaim_7 : decode cX0_settleClaim 7 = .ok (.ifnull 14, 3) := by decide +kernel
theorem dX0_settleClaim_10 : decode cX0_settleClaim 10 = .ok (.iload_n 2, 1) := by decide +kernel
theorem dX0_settleClaim_11 : decode cX0_settleClaim 11 = .ok (.iconst 0, 1) := by decide +kernel
theorem dX0_settleClaim_12 : decode cX0_settleClaim 12 = .ok (.sipush 9999, 3) := by decide +kernel
theorem dX0_settleClaim_15 : decode cX0_settleClaim 15 = .ok (.invokestatic 68, 3) := by decide +kernel
theorem dX0_settleClaim_18 : decode cX0_settleClaim 18 = .ok (.ifCond .ne 6, 3) := by decide +kernel
theorem dX0_settleClaim_21 : decode cX0_settleClaim 21 = .ok (.ldc 76, 2) := by decide +kernel
theorem dX0_settleClaim_23 : decode cX0_settleClaim 23 = .ok (.ireturn, 1) := by decide +kernel
theorem dX0_settleClaim_24 : decode cX0_settleClaim 24 = .ok (.aload_n 3, 1) := by decide +kernel
theorem dX0_settleClaim_25 : decode cX0_settleClaim 25 = .ok (.getfield 127, 3) := by decide +kernel
theorem dX0_settleClaim_28 : decode cX0_settleClaim 28 = .ok (.ifCond .eq 11, 3) := by decide +kernel
theorem dX0_settleClaim_31 : decode cX0_settleClaim 31 = .ok (.iload_n 2, 1) := by decide +kernel
theorem dX0_settleClaim_32 : decode cX0_settleClaim 32 = .ok (.aload_n 3, 1) := by decide +kernel
theorem dX0_settleClaim_33 : decode cX0_settleClaim 33 = .ok (.getfield 131, 3) := by decide +kernel
theorem dX0_settleClaim_36 : decode cX0_settleClaim 36 = .ok (.if_icmp .ne 6, 3) := by decide +kernel
theorem dX0_settleClaim_39 : decode cX0_settleClaim 39 = .ok (.ldc 134, 2) := by decide +kernel
theorem dX0_settleClaim_41 : decode cX0_settleClaim 41 = .ok (.ireturn, 1) := by decide +kernel
theorem dX0_settleClaim_42 : decode cX0_settleClaim 42 = .ok (.aload_n 3, 1) := by decide +kernel
theorem dX0_settleClaim_43 : decode cX0_settleClaim 43 = .ok (.iconst 0, 1) := by decide +kernel
theorem dX0_settleClaim_44 : decode cX0_settleClaim 44 = .ok (.putfield 127, 3) := by decide +kernel
theorem dX0_settleClaim_47 : decode cX0_settleClaim 47 = .ok (.aload_n 0, 1) := by decide +kernel
theorem dX0_settleClaim_48 : decode cX0_settleClaim 48 = .ok (.aload_n 3, 1) := by decide +kernel
theorem dX0_settleClaim_49 : decode cX0_settleClaim 49 = .ok (.getfield 135, 3) := by decide +kernel
theorem dX0_settleClaim_52 : decode cX0_settleClaim 52 = .ok (.invokevirtual 72, 3) := by decide +kernel
theorem dX0_settleClaim_55 : decode cX0_settleClaim 55 = .ok (.astore 4, 2) := by decide +kernel
theorem dX0_settleClaim_57 : decode cX0_settleClaim 57 = .ok (.aload 4, 2) := by decide +kernel
theorem dX0_settleClaim_59 : decode cX0_settleClaim 59 = .ok (.ifnull 17, 3) := by decide +kernel
theorem dX0_settleClaim_62 : decode cX0_settleClaim 62 = .ok (.aload_n 0, 1) := by decide +kernel
theorem dX0_settleClaim_63 : decode cX0_settleClaim 63 = .ok (.aload_n 3, 1) := by decide +kernel
theorem dX0_settleClaim_64 : decode cX0_settleClaim 64 = .ok (.getfield 138, 3) := by decide +kernel
theorem dX0_settleClaim_67 : decode cX0_settleClaim 67 = .ok (.aload 4, 2) := by decide +kernel
theorem dX0_settleClaim_69 : decode cX0_settleClaim 69 = .ok (.iload_n 2, 1) := by decide +kernel
theorem dX0_settleClaim_70 : decode cX0_settleClaim 70 = .ok (.invokevirtual 141, 3) := by decide +kernel
theorem dX0_settleClaim_73 : decode cX0_settleClaim 73 = .ok (.ifCond .ne 5, 3) := by decide +kernel
theorem dX0_settleClaim_76 : decode cX0_settleClaim 76 = .ok (.iconst 0, 1) := by decide +kernel
theorem dX0_settleClaim_77 : decode cX0_settleClaim 77 = .ok (.ireturn, 1) := by decide +kernel
theorem dX0_settleClaim_78 : decode cX0_settleClaim 78 = .ok (.aload_n 3, 1) := by decide +kernel
theorem dX0_settleClaim_79 : decode cX0_settleClaim 79 = .ok (.aload_n 3, 1) := by decide +kernel
theorem dX0_settleClaim_80 : decode cX0_settleClaim 80 = .ok (.getfield 145, 3) := by decide +kernel
theorem dX0_settleClaim_83 : decode cX0_settleClaim 83 = .ok (.aload_n 3, 1) := by decide +kernel
theorem dX0_settleClaim_84 : decode cX0_settleClaim 84 = .ok (.getfield 131, 3) := by decide +kernel
theorem dX0_settleClaim_87 : decode cX0_settleClaim 87 = .ok (.isub, 1) := by decide +kernel
theorem dX0_settleClaim_88 : decode cX0_settleClaim 88 = .ok (.invokevirtual 120, 3) := by decide +kernel
theorem dX0_settleClaim_91 : decode cX0_settleClaim 91 = .ok (.aload_n 0, 1) := by decide +kernel
theorem dX0_settleClaim_92 : decode cX0_settleClaim 92 = .ok (.dup, 1) := by decide +kernel
theorem dX0_settleClaim_93 : decode cX0_settleClaim 93 = .ok (.getfield 65, 3) := by decide +kernel
theorem dX0_settleClaim_96 : decode cX0_settleClaim 96 = .ok (.aload_n 3, 1) := by decide +kernel
theorem dX0_settleClaim_97 : decode cX0_settleClaim 97 = .ok (.getfield 145, 3) := by decide +kernel
theorem dX0_settleClaim_100 : decode cX0_settleClaim 100 = .ok (.aload_n 3, 1) := by decide +kernel
theorem dX0_settleClaim_101 : decode cX0_settleClaim 101 = .ok (.getfield 131, 3) := by decide +kernel
theorem dX0_settleClaim_104 : decode cX0_settleClaim 104 = .ok (.isub, 1) := by decide +kernel
theorem dX0_settleClaim_105 : decode cX0_settleClaim 105 = .ok (.iadd, 1) := by decide +kernel
theorem dX0_settleClaim_106 : decode cX0_settleClaim 106 = .ok (.putfield 65, 3) := by decide +kernel
theorem dX0_settleClaim_109 : decode cX0_settleClaim 109 = .ok (.aload_n 3, 1) := by decide +kernel
theorem dX0_settleClaim_110 : decode cX0_settleClaim 110 = .ok (.iload_n 2, 1) := by decide +kernel
theorem dX0_settleClaim_111 : decode cX0_settleClaim 111 = .ok (.invokevirtual 148, 3) := by decide +kernel
theorem dX0_settleClaim_114 : decode cX0_settleClaim 114 = .ok (.ifCond .eq 5, 3) := by decide +kernel
theorem dX0_settleClaim_117 : decode cX0_settleClaim 117 = .ok (.iconst 1, 1) := by decide +kernel
theorem dX0_settleClaim_118 : decode cX0_settleClaim 118 = .ok (.ireturn, 1) := by decide +kernel
theorem dX0_settleClaim_119 : decode cX0_settleClaim 119 = .ok (.aload_n 3, 1) := by decide +kernel
theorem dX0_settleClaim_120 : decode cX0_settleClaim 120 = .ok (.aload_n 0, 1) := by decide +kernel
theorem dX0_settleClaim_121 : decode cX0_settleClaim 121 = .ok (.getfield 36, 3) := by decide +kernel
theorem dX0_settleClaim_124 : decode cX0_settleClaim 124 = .ok (.ineg, 1) := by decide +kernel
theorem dX0_settleClaim_125 : decode cX0_settleClaim 125 = .ok (.invokevirtual 120, 3) := by decide +kernel
theorem dX0_settleClaim_128 : decode cX0_settleClaim 128 = .ok (.iconst 2, 1) := by decide +kernel
theorem dX0_settleClaim_129 : decode cX0_settleClaim 129 = .ok (.ireturn, 1) := by decide +kernel
set_option maxRecDepth 20000 in
theorem ggX0_allows_X7_leastCount : GoodIn wsX0_allows wsX7_leastCount := goodIn_r _ [6, 7, 8, 9, 10, 11, 12, 13, 14, 15, 16, 17, 18, 19, 20, 21, 5, 22, 23, 24, 25, 26, 27, 28, 29, 30, 58, 59, 60, 61, 62] (by decide +kernel) (by decide +kernel)
set_option maxRecDepth 20000 in
theorem gX0_allows_X7_leastCount : GoodIn wsX0_allows (wsV RX0 152 RX7 yX7_leastCount wsX7_leastCount) := goodIn_app (goodIn_of _ (by decide +kernel)) ggX0_allows_X7_leastCount
set_option maxRecDepth 20000 in
theorem ggX0_allows_X7_greatestCount : GoodIn wsX0_allows wsX7_greatestCount := goodIn_r _ [34, 7, 35, 36, 37, 5, 38, 23, 39, 40, 41, 42, 43, 44, 45, 15, 46, 17, 18, 24, 25, 26, 27, 28, 29, 30, 58, 59, 60, 61, 62] (by decide +kernel) (by decide +kernel)
set_option maxRecDepth 20000 in
theorem gX0_allows_X7_greatestCount : GoodIn wsX0_allows (wsV RX0 156 RX7 yX7_greatestCount wsX7_greatestCount) := goodIn_app (goodIn_of _ (by decide +kernel)) ggX0_allows_X7_greatestCount
set_option maxRecDepth 20000 in
theorem ggX0_allows_X9_within : GoodIn wsX0_allows wsX9_within := goodIn_r _ [48] (by decide +kernel) (by decide +kernel)
set_option maxRecDepth 20000 in
theorem gX0_allows_X9_within_n68 : GoodIn wsX0_allows (wsX9_within) := ggX0_allows_X9_within
theorem dX0_allows_0 : decode cX0_allows 0 = .ok (.iload_n 3, 1) := by decide +kernel
theorem dX0_allows_1 : decode cX0_allows 1 = .ok (.aload_n 0, 1) := by decide +kernel
theorem dX0_allows_2 : decode cX0_allows 2 = .ok (.getfield 20, 3) := by decide +kernel
theorem dX0_allows_5 : decode cX0_allows 5 = .ok (.iload_n 1, 1) := by decide +kernel
theorem dX0_allows_6 : decode cX0_allows 6 = .ok (.aload_n 2, 1) := by decide +kernel
theorem dX0_allows_7 : decode cX0_allows 7 = .ok (.invokevirtual 152, 3) := by decide +kernel
theorem dX0_allows_10 : decode cX0_allows 10 = .ok (.aload_n 0, 1) := by decide +kernel
theorem dX0_allows_11 : decode cX0_allows 11 = .ok (.getfield 20, 3) := by decide +kernel
theorem dX0_allows_14 : decode cX0_allows 14 = .ok (.iload_n 1, 1) := by decide +kernel
theorem dX0_allows_15 : decode cX0_allows 15 = .ok (.aload_n 2, 1) := by decide +kernel
theorem dX0_allows_16 : decode cX0_allows 16 = .ok (.invokevirtual 156, 3) := by decide +kernel
theorem dX0_allows_19 : decode cX0_allows 19 = .ok (.invokestatic 68, 3) := by decide +kernel
theorem dX0_allows_22 : decode cX0_allows 22 = .ok (.ireturn, 1) := by decide +kernel
set_option maxRecDepth 20000 in
theorem ggX0_placePrize_X9_within : GoodIn wsX0_placePrize wsX9_within := goodIn_r _ [8] (by decide +kernel) (by decide +kernel)
set_option maxRecDepth 20000 in
theorem gX0_placePrize_X9_within_n68 : GoodIn wsX0_placePrize (wsX9_within) := ggX0_placePrize_X9_within
set_option maxRecDepth 20000 in
theorem ggX0_placePrize_X5_begin : GoodIn wsX0_placePrize wsX5_begin := goodIn_r _ [13, 14, 15, 16, 17, 18, 19, 20, 30, 31, 32, 33, 34, 35, 36] (by decide +kernel) (by decide +kernel)
set_option maxRecDepth 20000 in
theorem gX0_placePrize_X5_begin : GoodIn wsX0_placePrize (wsV RX0 160 RX5 yX5_begin wsX5_begin) := goodIn_app (goodIn_of _ (by decide +kernel)) ggX0_placePrize_X5_begin
theorem dX0_placePrize_0 : decode cX0_placePrize 0 = .ok (.iload_n 1, 1) := by decide +kernel
theorem dX0_placePrize_1 : decode cX0_placePrize 1 = .ok (.iconst 1, 1) := by decide +kernel
theorem dX0_placePrize_2 : decode cX0_placePrize 2 = .ok (.sipush 5000, 3) := by decide +kernel
theorem dX0_placePrize_5 : decode cX0_placePrize 5 = .ok (.invokestatic 68, 3) := by decide +kernel
theorem dX0_placePrize_8 : decode cX0_placePrize 8 = .ok (.ifCond .eq 24, 3) := by decide +kernel
theorem dX0_placePrize_11 : decode cX0_placePrize 11 = .ok (.iload_n 2, 1) := by decide +kernel
theorem dX0_placePrize_12 : decode cX0_placePrize 12 = .ok (.iconst 1, 1) := by decide +kernel
theorem dX0_placePrize_13 : decode cX0_placePrize 13 = .ok (.sipush 20000, 3) := by decide +kernel
theorem dX0_placePrize_16 : decode cX0_placePrize 16 = .ok (.invokestatic 68, 3) := by decide +kernel
theorem dX0_placePrize_19 : decode cX0_placePrize 19 = .ok (.ifCond .eq 13, 3) := by decide +kernel
theorem dX0_placePrize_22 : decode cX0_placePrize 22 = .ok (.iload_n 3, 1) := by decide +kernel
theorem dX0_placePrize_23 : decode cX0_placePrize 23 = .ok (.iconst 0, 1) := by decide +kernel
theorem dX0_placePrize_24 : decode cX0_placePrize 24 = .ok (.bipush 99, 2) := by decide +kernel
theorem dX0_placePrize_26 : decode cX0_placePrize 26 = .ok (.invokestatic 68, 3) := by decide +kernel
theorem dX0_placePrize_29 : decode cX0_placePrize 29 = .ok (.ifCond .ne 6, 3) := by decide +kernel
theorem dX0_placePrize_32 : decode cX0_placePrize 32 = .ok (.ldc 76, 2) := by decide +kernel
theorem dX0_placePrize_34 : decode cX0_placePrize 34 = .ok (.ireturn, 1) := by decide +kernel
theorem dX0_placePrize_35 : decode cX0_placePrize 35 = .ok (.iload 4, 2) := by decide +kernel
theorem dX0_placePrize_37 : decode cX0_placePrize 37 = .ok (.iconst 1, 1) := by decide +kernel
theorem dX0_placePrize_38 : decode cX0_placePrize 38 = .ok (.ldc 159, 2) := by decide +kernel
theorem dX0_placePrize_40 : decode cX0_placePrize 40 = .ok (.invokestatic 68, 3) := by decide +kernel
theorem dX0_placePrize_43 : decode cX0_placePrize 43 = .ok (.ifCond .eq 14, 3) := by decide +kernel
theorem dX0_placePrize_46 : decode cX0_placePrize 46 = .ok (.iload 5, 2) := by decide +kernel
theorem dX0_placePrize_48 : decode cX0_placePrize 48 = .ok (.iconst 1, 1) := by decide +kernel
theorem dX0_placePrize_49 : decode cX0_placePrize 49 = .ok (.ldc 159, 2) := by decide +kernel
theorem dX0_placePrize_51 : decode cX0_placePrize 51 = .ok (.invokestatic 68, 3) := by decide +kernel
theorem dX0_placePrize_54 : decode cX0_placePrize 54 = .ok (.ifCond .ne 6, 3) := by decide +kernel
theorem dX0_placePrize_57 : decode cX0_placePrize 57 = .ok (.ldc 76, 2) := by decide +kernel
theorem dX0_placePrize_59 : decode cX0_placePrize 59 = .ok (.ireturn, 1) := by decide +kernel
theorem dX0_placePrize_60 : decode cX0_placePrize 60 = .ok (.aload_n 0, 1) := by decide +kernel
theorem dX0_placePrize_61 : decode cX0_placePrize 61 = .ok (.getfield 59, 3) := by decide +kernel
theorem dX0_placePrize_64 : decode cX0_placePrize 64 = .ok (.iconst 0, 1) := by decide +kernel
theorem dX0_placePrize_65 : decode cX0_placePrize 65 = .ok (.iconst 5, 1) := by decide +kernel
theorem dX0_placePrize_66 : decode cX0_placePrize 66 = .ok (.invokestatic 68, 3) := by decide +kernel
theorem dX0_placePrize_69 : decode cX0_placePrize 69 = .ok (.ifCond .ne 6, 3) := by decide +kernel
theorem dX0_placePrize_72 : decode cX0_placePrize 72 = .ok (.ldc 101, 2) := by decide +kernel
theorem dX0_placePrize_74 : decode cX0_placePrize 74 = .ok (.ireturn, 1) := by decide +kernel
theorem dX0_placePrize_75 : decode cX0_placePrize 75 = .ok (.aload_n 0, 1) := by decide +kernel
theorem dX0_placePrize_76 : decode cX0_placePrize 76 = .ok (.getfield 32, 3) := by decide +kernel
theorem dX0_placePrize_79 : decode cX0_placePrize 79 = .ok (.aload_n 0, 1) := by decide +kernel
theorem dX0_placePrize_80 : decode cX0_placePrize 80 = .ok (.getfield 59, 3) := by decide +kernel
theorem dX0_placePrize_83 : decode cX0_placePrize 83 = .ok (.aaload, 1) := by decide +kernel
theorem dX0_placePrize_84 : decode cX0_placePrize 84 = .ok (.iload_n 1, 1) := by decide +kernel
theorem dX0_placePrize_85 : decode cX0_placePrize 85 = .ok (.iload_n 2, 1) := by decide +kernel
theorem dX0_placePrize_86 : decode cX0_placePrize 86 = .ok (.iload_n 3, 1) := by decide +kernel
theorem dX0_placePrize_87 : decode cX0_placePrize 87 = .ok (.iload 4, 2) := by decide +kernel
theorem dX0_placePrize_89 : decode cX0_placePrize 89 = .ok (.iload 5, 2) := by decide +kernel
theorem dX0_placePrize_91 : decode cX0_placePrize 91 = .ok (.invokevirtual 160, 3) := by decide +kernel
theorem dX0_placePrize_94 : decode cX0_placePrize 94 = .ok (.aload_n 0, 1) := by decide +kernel
theorem dX0_placePrize_95 : decode cX0_placePrize 95 = .ok (.dup, 1) := by decide +kernel
theorem dX0_placePrize_96 : decode cX0_placePrize 96 = .ok (.getfield 59, 3) := by decide +kernel
theorem dX0_placePrize_99 : decode cX0_placePrize 99 = .ok (.iconst 1, 1) := by decide +kernel
theorem dX0_placePrize_100 : decode cX0_placePrize 100 = .ok (.iadd, 1) := by decide +kernel
theorem dX0_placePrize_101 : decode cX0_placePrize 101 = .ok (.putfield 59, 3) := by decide +kernel
theorem dX0_placePrize_104 : decode cX0_placePrize 104 = .ok (.aload_n 0, 1) := by decide +kernel
theorem dX0_placePrize_105 : decode cX0_placePrize 105 = .ok (.getfield 59, 3) := by decide +kernel
theorem dX0_placePrize_108 : decode cX0_placePrize 108 = .ok (.iconst 1, 1) := by decide +kernel
theorem dX0_placePrize_109 : decode cX0_placePrize 109 = .ok (.isub, 1) := by decide +kernel
theorem dX0_placePrize_110 : decode cX0_placePrize 110 = .ok (.ireturn, 1) := by decide +kernel
set_option maxRecDepth 20000 in
theorem ggX0_sellPrize_X0_customerAt : GoodIn wsX0_sellPrize wsX0_customerAt := goodIn_r _ [11, 12, 13, 14, 15, 16, 57, 58, 59, 60, 61, 62, 63, 64, 65] (by decide +kernel) (by decide +kernel)
set_option maxRecDepth 20000 in
theorem gX0_sellPrize_X0_customerAt : GoodIn wsX0_sellPrize (wsV RX0 106 RX0 yX0_customerAt wsX0_customerAt) := goodIn_app (goodIn_of _ (by decide +kernel)) ggX0_sellPrize_X0_customerAt
set_option maxRecDepth 20000 in
theorem ggX0_sellPrize_X0_prizeAt : GoodIn wsX0_sellPrize wsX0_prizeAt := goodIn_r _ [20, 21, 22, 14, 15, 16, 57, 58, 59, 60, 61, 62, 63, 64, 65] (by decide +kernel) (by decide +kernel)
set_option maxRecDepth 20000 in
theorem gX0_sellPrize_X0_prizeAt : GoodIn wsX0_sellPrize (wsV RX0 163 RX0 yX0_prizeAt wsX0_prizeAt) := goodIn_app (goodIn_of _ (by decide +kernel)) ggX0_sellPrize_X0_prizeAt
set_option maxRecDepth 20000 in
theorem ggX0_sellPrize_X9_within : GoodIn wsX0_sellPrize wsX9_within := goodIn_r _ [16] (by decide +kernel) (by decide +kernel)
set_option maxRecDepth 20000 in
theorem gX0_sellPrize_X9_within_n68 : GoodIn wsX0_sellPrize (wsX9_within) := ggX0_sellPrize_X9_within
set_option maxRecDepth 20000 in
theorem ggX0_sellPrize_X5_sell : GoodIn wsX0_sellPrize wsX5_sell := goodIn_r _ [27, 28, 29, 30, 31, 32, 33, 34, 35, 36, 37, 38, 15, 39, 40, 41, 42, 43, 50, 51, 52, 53, 54, 55, 56] (by decide +kernel) (by decide +kernel)
set_option maxRecDepth 20000 in
theorem gX0_sellPrize_X5_sell : GoodIn wsX0_sellPrize (wsV RX0 173 RX5 yX5_sell wsX5_sell) := goodIn_app (goodIn_of _ (by decide +kernel)) ggX0_sellPrize_X5_sell
theorem dX0_sellPrize_0 : decode cX0_sellPrize 0 = .ok (.aload_n 0, 1) := by decide +kernel
theorem dX0_sellPrize_1 : decode cX0_sellPrize 1 = .ok (.iload_n 1, 1) := by decide +kernel
theorem dX0_sellPrize_2 : decode cX0_sellPrize 2 = .ok (.invokevirtual 106, 3) := by decide +kernel
theorem dX0_sellPrize_5 : decode cX0_sellPrize 5 = .ok (.astore 4, 2) := by decide +kernel
theorem dX0_sellPrize_7 : decode cX0_sellPrize 7 = .ok (.aload_n 0, 1) := by decide +kernel
theorem dX0_sellPrize_8 : decode cX0_sellPrize 8 = .ok (.iload_n 2, 1) := by decide +kernel
theorem dX0_sellPrize_9 : decode cX0_sellPrize 9 = .ok (.invokevirtual 163, 3) := by decide +kernel
theorem dX0_sellPrize_12 : decode cX0_sellPrize 12 = .ok (.astore 5, 2) := by decide +kernel
theorem dX0_sellPrize_14 : decode cX0_sellPrize 14 = .ok (.aload 4, 2) := by decide +kernel
theorem dX0_sellPrize_16 : decode cX0_sellPrize 16 = .ok (.ifnull 18, 3) := by decide +kernel
theorem dX0_sellPrize_19 : decode cX0_sellPrize 19 = .ok (.aload 5, 2) := by decide +kernel
theorem dX0_sellPrize_21 : decode cX0_sellPrize 21 = .ok (.ifnull 13, 3) := by decide +kernel
theorem dX0_sellPrize_24 : decode cX0_sellPrize 24 = .ok (.iload_n 3, 1) := by decide +kernel
theorem dX0_sellPrize_25 : decode cX0_sellPrize 25 = .ok (.iconst 1, 1) := by decide +kernel
theorem dX0_sellPrize_26 : decode cX0_sellPrize 26 = .ok (.bipush 99, 2) := by decide +kernel
theorem dX0_sellPrize_28 : decode cX0_sellPrize 28 = .ok (.invokestatic 68, 3) := by decide +kernel
theorem dX0_sellPrize_31 : decode cX0_sellPrize 31 = .ok (.ifCond .ne 6, 3) := by decide +kernel
theorem dX0_sellPrize_34 : decode cX0_sellPrize 34 = .ok (.ldc 76, 2) := by decide +kernel
theorem dX0_sellPrize_36 : decode cX0_sellPrize 36 = .ok (.ireturn, 1) := by decide +kernel
theorem dX0_sellPrize_37 : decode cX0_sellPrize 37 = .ok (.aload 4, 2) := by decide +kernel
theorem dX0_sellPrize_39 : decode cX0_sellPrize 39 = .ok (.getfield 110, 3) := by decide +kernel
theorem dX0_sellPrize_42 : decode cX0_sellPrize 42 = .ok (.iload_n 3, 1) := by decide +kernel
theorem dX0_sellPrize_43 : decode cX0_sellPrize 43 = .ok (.aload 5, 2) := by decide +kernel
theorem dX0_sellPrize_45 : decode cX0_sellPrize 45 = .ok (.getfield 170, 3) := by decide +kernel
theorem dX0_sellPrize_48 : decode cX0_sellPrize 48 = .ok (.imul, 1) := by decide +kernel
theorem dX0_sellPrize_49 : decode cX0_sellPrize 49 = .ok (.if_icmp .ge 6, 3) := by decide +kernel
theorem dX0_sellPrize_52 : decode cX0_sellPrize 52 = .ok (.ldc 134, 2) := by decide +kernel
theorem dX0_sellPrize_54 : decode cX0_sellPrize 54 = .ok (.ireturn, 1) := by decide +kernel
theorem dX0_sellPrize_55 : decode cX0_sellPrize 55 = .ok (.aload 5, 2) := by decide +kernel
theorem dX0_sellPrize_57 : decode cX0_sellPrize 57 = .ok (.getfield 167, 3) := by decide +kernel
theorem dX0_sellPrize_60 : decode cX0_sellPrize 60 = .ok (.iload_n 3, 1) := by decide +kernel
theorem dX0_sellPrize_61 : decode cX0_sellPrize 61 = .ok (.if_icmp .ge 6, 3) := by decide +kernel
theorem dX0_sellPrize_64 : decode cX0_sellPrize 64 = .ok (.ldc 101, 2) := by decide +kernel
theorem dX0_sellPrize_66 : decode cX0_sellPrize 66 = .ok (.ireturn, 1) := by decide +kernel
theorem dX0_sellPrize_67 : decode cX0_sellPrize 67 = .ok (.aload 4, 2) := by decide +kernel
theorem dX0_sellPrize_69 : decode cX0_sellPrize 69 = .ok (.dup, 1) := by decide +kernel
theorem dX0_sellPrize_70 : decode cX0_sellPrize 70 = .ok (.getfield 110, 3) := by decide +kernel
theorem dX0_sellPrize_73 : decode cX0_sellPrize 73 = .ok (.iload_n 3, 1) := by decide +kernel
theorem dX0_sellPrize_74 : decode cX0_sellPrize 74 = .ok (.aload 5, 2) := by decide +kernel
theorem dX0_sellPrize_76 : decode cX0_sellPrize 76 = .ok (.getfield 170, 3) := by decide +kernel
theorem dX0_sellPrize_79 : decode cX0_sellPrize 79 = .ok (.imul, 1) := by decide +kernel
theorem dX0_sellPrize_80 : decode cX0_sellPrize 80 = .ok (.isub, 1) := by decide +kernel
theorem dX0_sellPrize_81 : decode cX0_sellPrize 81 = .ok (.putfield 110, 3) := by decide +kernel
theorem dX0_sellPrize_84 : decode cX0_sellPrize 84 = .ok (.aload 5, 2) := by decide +kernel
theorem dX0_sellPrize_86 : decode cX0_sellPrize 86 = .ok (.iload_n 3, 1) := by decide +kernel
theorem dX0_sellPrize_87 : decode cX0_sellPrize 87 = .ok (.invokevirtual 173, 3) := by decide +kernel
theorem dX0_sellPrize_90 : decode cX0_sellPrize 90 = .ok (.aload 4, 2) := by decide +kernel
theorem dX0_sellPrize_92 : decode cX0_sellPrize 92 = .ok (.getfield 110, 3) := by decide +kernel
theorem dX0_sellPrize_95 : decode cX0_sellPrize 95 = .ok (.ireturn, 1) := by decide +kernel
set_option maxRecDepth 20000 in
theorem ggX0_number_X0_keptWeighings : GoodIn wsX0_number wsX0_keptWeighings := goodIn_r _ [15, 16, 17, 29, 30, 31, 32, 33, 34, 35, 36, 37, 41, 42, 43, 44, 45, 46] (by decide +kernel) (by decide +kernel)
set_option maxRecDepth 20000 in
theorem gX0_number_X0_keptWeighings : GoodIn wsX0_number (wsV RX0 176 RX0 yX0_keptWeighings wsX0_keptWeighings) := goodIn_app (goodIn_of _ (by decide +kernel)) ggX0_number_X0_keptWeighings
set_option maxRecDepth 20000 in
theorem ggX0_number_X0_allPoints : GoodIn wsX0_number wsX0_allPoints := goodIn_r _ [21, 16, 22, 29, 30, 31, 32, 33, 34, 35, 36, 37, 41, 42, 43, 44, 45, 46] (by decide +kernel) (by decide +kernel)
set_option maxRecDepth 20000 in
theorem gX0_number_X0_allPoints : GoodIn wsX0_number (wsV RX0 180 RX0 yX0_allPoints wsX0_allPoints) := goodIn_app (goodIn_of _ (by decide +kernel)) ggX0_number_X0_allPoints
set_option maxRecDepth 20000 in
theorem ggX0_number_X0_allStocks : GoodIn wsX0_number wsX0_allStocks := goodIn_r _ [26, 27, 28, 29, 30, 31, 32, 33, 34, 35, 36, 37, 47, 48, 49, 50, 51, 52, 53] (by decide +kernel) (by decide +kernel)
set_option maxRecDepth 20000 in
theorem gX0_number_X0_allStocks : GoodIn wsX0_number (wsV RX0 183 RX0 yX0_allStocks wsX0_allStocks) := goodIn_app (goodIn_of _ (by decide +kernel)) ggX0_number_X0_allStocks
theorem dX0_number_0 : decode cX0_number 0 = .ok (.iload_n 1, 1) := by decide +kernel
theorem dX0_number_1 : decode cX0_number 1 = .ok (.tableswitch 123 0 10 #[59, 67, 75, 83, 88, 93, 98, 103, 108, 113, 118], 59) := by decide +kernel
theorem dX0_number_60 : decode cX0_number 60 = .ok (.aload_n 0, 1) := by decide +kernel
theorem dX0_number_61 : decode cX0_number 61 = .ok (.getfield 20, 3) := by decide +kernel
theorem dX0_number_64 : decode cX0_number 64 = .ok (.getfield 83, 3) := by decide +kernel
theorem dX0_number_67 : decode cX0_number 67 = .ok (.ireturn, 1) := by decide +kernel
theorem dX0_number_68 : decode cX0_number 68 = .ok (.aload_n 0, 1) := by decide +kernel
theorem dX0_number_69 : decode cX0_number 69 = .ok (.getfield 20, 3) := by decide +kernel
theorem dX0_number_72 : decode cX0_number 72 = .ok (.getfield 86, 3) := by decide +kernel
theorem dX0_number_75 : decode cX0_number 75 = .ok (.ireturn, 1) := by decide +kernel
theorem dX0_number_76 : decode cX0_number 76 = .ok (.aload_n 0, 1) := by decide +kernel
theorem dX0_number_77 : decode cX0_number 77 = .ok (.getfield 20, 3) := by decide +kernel
theorem dX0_number_80 : decode cX0_number 80 = .ok (.getfield 89, 3) := by decide +kernel
theorem dX0_number_83 : decode cX0_number 83 = .ok (.ireturn, 1) := by decide +kernel
theorem dX0_number_84 : decode cX0_number 84 = .ok (.aload_n 0, 1) := by decide +kernel
theorem dX0_number_85 : decode cX0_number 85 = .ok (.getfield 62, 3) := by decide +kernel
theorem dX0_number_88 : decode cX0_number 88 = .ok (.ireturn, 1) := by decide +kernel
theorem dX0_number_89 : decode cX0_number 89 = .ok (.aload_n 0, 1) := by decide +kernel
theorem dX0_number_90 : decode cX0_number 90 = .ok (.getfield 36, 3) := by decide +kernel
theorem dX0_number_93 : decode cX0_number 93 = .ok (.ireturn, 1) := by decide +kernel
theorem dX0_number_94 : decode cX0_number 94 = .ok (.aload_n 0, 1) := by decide +kernel
theorem dX0_number_95 : decode cX0_number 95 = .ok (.getfield 56, 3) := by decide +kernel
theorem dX0_number_98 : decode cX0_number 98 = .ok (.ireturn, 1) := by decide +kernel
theorem dX0_number_99 : decode cX0_number 99 = .ok (.aload_n 0, 1) := by decide +kernel
theorem dX0_number_100 : decode cX0_number 100 = .ok (.getfield 59, 3) := by decide +kernel
theorem dX0_number_103 : decode cX0_number 103 = .ok (.ireturn, 1) := by decide +kernel
theorem dX0_number_104 : decode cX0_number 104 = .ok (.aload_n 0, 1) := by decide +kernel
theorem dX0_number_105 : decode cX0_number 105 = .ok (.invokevirtual 176, 3) := by decide +kernel
theorem dX0_number_108 : decode cX0_number 108 = .ok (.ireturn, 1) := by decide +kernel
theorem dX0_number_109 : decode cX0_number 109 = .ok (.aload_n 0, 1) := by decide +kernel
theorem dX0_number_110 : decode cX0_number 110 = .ok (.getfield 65, 3) := by decide +kernel
theorem dX0_number_113 : decode cX0_number 113 = .ok (.ireturn, 1) := by decide +kernel
theorem dX0_number_114 : decode cX0_number 114 = .ok (.aload_n 0, 1) := by decide +kernel
theorem dX0_number_115 : decode cX0_number 115 = .ok (.invokevirtual 180, 3) := by decide +kernel
theorem dX0_number_118 : decode cX0_number 118 = .ok (.ireturn, 1) := by decide +kernel
theorem dX0_number_119 : decode cX0_number 119 = .ok (.aload_n 0, 1) := by decide +kernel
theorem dX0_number_120 : decode cX0_number 120 = .ok (.invokevirtual 183, 3) := by decide +kernel
theorem dX0_number_123 : decode cX0_number 123 = .ok (.ireturn, 1) := by decide +kernel
theorem dX0_number_124 : decode cX0_number 124 = .ok (.ldc 76, 2) := by decide +kernel
theorem dX0_number_126 : decode cX0_number 126 = .ok (.ireturn, 1) := by decide +kernel
theorem dX0_keptWeighings_0 : decode cX0_keptWeighings 0 = .ok (.iconst 0, 1) := by decide +kernel
theorem dX0_keptWeighings_1 : decode cX0_keptWeighings 1 = .ok (.istore_n 1, 1) := by decide +kernel
theorem dX0_keptWeighings_2 : decode cX0_keptWeighings 2 = .ok (.aload_n 0, 1) := by decide +kernel
theorem dX0_keptWeighings_3 : decode cX0_keptWeighings 3 = .ok (.getfield 26, 3) := by decide +kernel
theorem dX0_keptWeighings_6 : decode cX0_keptWeighings 6 = .ok (.astore_n 2, 1) := by decide +kernel
theorem dX0_keptWeighings_7 : decode cX0_keptWeighings 7 = .ok (.aload_n 2, 1) := by decide +kernel
theorem dX0_keptWeighings_8 : decode cX0_keptWeighings 8 = .ok (.arraylength, 1) := by decide +kernel
theorem dX0_keptWeighings_9 : decode cX0_keptWeighings 9 = .ok (.istore_n 3, 1) := by decide +kernel
theorem dX0_keptWeighings_10 : decode cX0_keptWeighings 10 = .ok (.iconst 0, 1) := by decide +kernel
theorem dX0_keptWeighings_11 : decode cX0_keptWeighings 11 = .ok (.istore 4, 2) := by decide +kernel
theorem dX0_keptWeighings_13 : decode cX0_keptWeighings 13 = .ok (.iload 4, 2) := by decide +kernel
theorem dX0_keptWeighings_15 : decode cX0_keptWeighings 15 = .ok (.iload_n 3, 1) := by decide +kernel
theorem dX0_keptWeighings_16 : decode cX0_keptWeighings 16 = .ok (.if_icmp .ge 26, 3) := by decide +kernel
theorem dX0_keptWeighings_19 : decode cX0_keptWeighings 19 = .ok (.aload_n 2, 1) := by decide +kernel
theorem dX0_keptWeighings_20 : decode cX0_keptWeighings 20 = .ok (.iload 4, 2) := by decide +kernel
theorem dX0_keptWeighings_22 : decode cX0_keptWeighings 22 = .ok (.aaload, 1) := by decide +kernel
theorem dX0_keptWeighings_23 : decode cX0_keptWeighings 23 = .ok (.astore 5, 2) := by decide +kernel
theorem dX0_keptWeighings_25 : decode cX0_keptWeighings 25 = .ok (.aload 5, 2) := by decide +kernel
theorem dX0_keptWeighings_27 : decode cX0_keptWeighings 27 = .ok (.getfield 127, 3) := by decide +kernel
theorem dX0_keptWeighings_30 : decode cX0_keptWeighings 30 = .ok (.ifCond .eq 6, 3) := by decide +kernel
theorem dX0_keptWeighings_33 : decode cX0_keptWeighings 33 = .ok (.iinc 1 1, 3) := by decide +kernel
theorem dX0_keptWeighings_36 : decode cX0_keptWeighings 36 = .ok (.iinc 4 1, 3) := by decide +kernel
theorem dX0_keptWeighings_39 : decode cX0_keptWeighings 39 = .ok (.goto (-26), 3) := by decide +kernel
theorem dX0_keptWeighings_42 : decode cX0_keptWeighings 42 = .ok (.iload_n 1, 1) := by decide +kernel
theorem dX0_keptWeighings_43 : decode cX0_keptWeighings 43 = .ok (.ireturn, 1) := by decide +kernel
theorem dX0_allPoints_0 : decode cX0_allPoints 0 = .ok (.iconst 0, 1) := by decide +kernel
theorem dX0_allPoints_1 : decode cX0_allPoints 1 = .ok (.istore_n 1, 1) := by decide +kernel
theorem dX0_allPoints_2 : decode cX0_allPoints 2 = .ok (.aload_n 0, 1) := by decide +kernel
theorem dX0_allPoints_3 : decode cX0_allPoints 3 = .ok (.getfield 26, 3) := by decide +kernel
theorem dX0_allPoints_6 : decode cX0_allPoints 6 = .ok (.astore_n 2, 1) := by decide +kernel
theorem dX0_allPoints_7 : decode cX0_allPoints 7 = .ok (.aload_n 2, 1) := by decide +kernel
theorem dX0_allPoints_8 : decode cX0_allPoints 8 = .ok (.arraylength, 1) := by decide +kernel
theorem dX0_allPoints_9 : decode cX0_allPoints 9 = .ok (.istore_n 3, 1) := by decide +kernel
theorem dX0_allPoints_10 : decode cX0_allPoints 10 = .ok (.iconst 0, 1) := by decide +kernel
theorem dX0_allPoints_11 : decode cX0_allPoints 11 = .ok (.istore 4, 2) := by decide +kernel
theorem dX0_allPoints_13 : decode cX0_allPoints 13 = .ok (.iload 4, 2) := by decide +kernel
theorem dX0_allPoints_15 : decode cX0_allPoints 15 = .ok (.iload_n 3, 1) := by decide +kernel
theorem dX0_allPoints_16 : decode cX0_allPoints 16 = .ok (.if_icmp .ge 23, 3) := by decide +kernel
theorem dX0_allPoints_19 : decode cX0_allPoints 19 = .ok (.aload_n 2, 1) := by decide +kernel
theorem dX0_allPoints_20 : decode cX0_allPoints 20 = .ok (.iload 4, 2) := by decide +kernel
theorem dX0_allPoints_22 : decode cX0_allPoints 22 = .ok (.aaload, 1) := by decide +kernel
theorem dX0_allPoints_23 : decode cX0_allPoints 23 = .ok (.astore 5, 2) := by decide +kernel
theorem dX0_allPoints_25 : decode cX0_allPoints 25 = .ok (.iload_n 1, 1) := by decide +kernel
theorem dX0_allPoints_26 : decode cX0_allPoints 26 = .ok (.aload 5, 2) := by decide +kernel
theorem dX0_allPoints_28 : decode cX0_allPoints 28 = .ok (.getfield 110, 3) := by decide +kernel
theorem dX0_allPoints_31 : decode cX0_allPoints 31 = .ok (.iadd, 1) := by decide +kernel
theorem dX0_allPoints_32 : decode cX0_allPoints 32 = .ok (.istore_n 1, 1) := by decide +kernel
theorem dX0_allPoints_33 : decode cX0_allPoints 33 = .ok (.iinc 4 1, 3) := by decide +kernel
theorem dX0_allPoints_36 : decode cX0_allPoints 36 = .ok (.goto (-23), 3) := by decide +kernel
theorem dX0_allPoints_39 : decode cX0_allPoints 39 = .ok (.iload_n 1, 1) := by decide +kernel
theorem dX0_allPoints_40 : decode cX0_allPoints 40 = .ok (.ireturn, 1) := by decide +kernel
theorem dX0_allStocks_0 : decode cX0_allStocks 0 = .ok (.iconst 0, 1) := by decide +kernel
theorem dX0_allStocks_1 : decode cX0_allStocks 1 = .ok (.istore_n 1, 1) := by decide +kernel
theorem dX0_allStocks_2 : decode cX0_allStocks 2 = .ok (.aload_n 0, 1) := by decide +kernel
theorem dX0_allStocks_3 : decode cX0_allStocks 3 = .ok (.getfield 32, 3) := by decide +kernel
theorem dX0_allStocks_6 : decode cX0_allStocks 6 = .ok (.astore_n 2, 1) := by decide +kernel
theorem dX0_allStocks_7 : decode cX0_allStocks 7 = .ok (.aload_n 2, 1) := by decide +kernel
theorem dX0_allStocks_8 : decode cX0_allStocks 8 = .ok (.arraylength, 1) := by decide +kernel
theorem dX0_allStocks_9 : decode cX0_allStocks 9 = .ok (.istore_n 3, 1) := by decide +kernel
theorem dX0_allStocks_10 : decode cX0_allStocks 10 = .ok (.iconst 0, 1) := by decide +kernel
theorem dX0_allStocks_11 : decode cX0_allStocks 11 = .ok (.istore 4, 2) := by decide +kernel
theorem dX0_allStocks_13 : decode cX0_allStocks 13 = .ok (.iload 4, 2) := by decide +kernel
theorem dX0_allStocks_15 : decode cX0_allStocks 15 = .ok (.iload_n 3, 1) := by decide +kernel
theorem dX0_allStocks_16 : decode cX0_allStocks 16 = .ok (.if_icmp .ge 23, 3) := by decide +kernel
theorem dX0_allStocks_19 : decode cX0_allStocks 19 = .ok (.aload_n 2, 1) := by decide +kernel
theorem dX0_allStocks_20 : decode cX0_allStocks 20 = .ok (.iload 4, 2) := by decide +kernel
theorem dX0_allStocks_22 : decode cX0_allStocks 22 = .ok (.aaload, 1) := by decide +kernel
theorem dX0_allStocks_23 : decode cX0_allStocks 23 = .ok (.astore 5, 2) := by decide +kernel
theorem dX0_allStocks_25 : decode cX0_allStocks 25 = .ok (.iload_n 1, 1) := by decide +kernel
theorem dX0_allStocks_26 : decode cX0_allStocks 26 = .ok (.aload 5, 2) := by decide +kernel
theorem dX0_allStocks_28 : decode cX0_allStocks 28 = .ok (.getfield 167, 3) := by decide +kernel
theorem dX0_allStocks_31 : decode cX0_allStocks 31 = .ok (.iadd, 1) := by decide +kernel
theorem dX0_allStocks_32 : decode cX0_allStocks 32 = .ok (.istore_n 1, 1) := by decide +kernel
theorem dX0_allStocks_33 : decode cX0_allStocks 33 = .ok (.iinc 4 1, 3) := by decide +kernel
theorem dX0_allStocks_36 : decode cX0_allStocks 36 = .ok (.goto (-23), 3) := by decide +kernel
theorem dX0_allStocks_39 : decode cX0_allStocks 39 = .ok (.iload_n 1, 1) := by decide +kernel
theorem dX0_allStocks_40 : decode cX0_allStocks 40 = .ok (.ireturn, 1) := by decide +kernel
set_option maxRecDepth 20000 in
theorem ggX0_given_X0_kindAt : GoodIn wsX0_given wsX0_kindAt := goodIn_r _ [13, 14, 15, 16, 17, 75, 76, 77, 78, 79, 80, 81, 82, 83] (by decide +kernel) (by decide +kernel)
set_option maxRecDepth 20000 in
theorem gX0_given_X0_kindAt : GoodIn wsX0_given (wsV RX0 72 RX0 yX0_kindAt wsX0_kindAt) := goodIn_app (goodIn_of _ (by decide +kernel)) ggX0_given_X0_kindAt
set_option maxRecDepth 20000 in
theorem ggX0_given_X7_guessFrom : GoodIn wsX0_given wsX7_guessFrom := goodIn_r _ [22, 23, 24, 25, 26, 27, 28, 29, 30, 31, 32, 33, 34, 21, 35, 36, 37, 38, 39, 40, 41, 42, 43, 44, 45, 46, 47, 48, 49, 16, 50, 51, 52, 53, 54, 55, 56, 57, 58, 59, 60, 61, 62, 63, 64, 65, 66, 67, 68, 69, 70, 71, 72, 73, 74, 90, 91, 92, 93, 94] (by decide +kernel) (by decide +kernel)
set_option maxRecDepth 20000 in
theorem gX0_given_X7_guessFrom : GoodIn wsX0_given (wsV RX0 116 RX7 yX7_guessFrom wsX7_guessFrom) := goodIn_app (goodIn_of _ (by decide +kernel)) ggX0_given_X7_guessFrom
theorem dX0_given_0 : decode cX0_given 0 = .ok (.ldc 159, 2) := by decide +kernel
theorem dX0_given_2 : decode cX0_given 2 = .ok (.istore_n 2, 1) := by decide +kernel
theorem dX0_given_3 : decode cX0_given 3 = .ok (.aload_n 0, 1) := by decide +kernel
theorem dX0_given_4 : decode cX0_given 4 = .ok (.getfield 26, 3) := by decide +kernel
theorem dX0_given_7 : decode cX0_given 7 = .ok (.astore_n 3, 1) := by decide +kernel
theorem dX0_given_8 : decode cX0_given 8 = .ok (.aload_n 3, 1) := by decide +kernel
theorem dX0_given_9 : decode cX0_given 9 = .ok (.arraylength, 1) := by decide +kernel
theorem dX0_given_10 : decode cX0_given 10 = .ok (.istore 4, 2) := by decide +kernel
theorem dX0_given_12 : decode cX0_given 12 = .ok (.iconst 0, 1) := by decide +kernel
theorem dX0_given_13 : decode cX0_given 13 = .ok (.istore 5, 2) := by decide +kernel
theorem dX0_given_15 : decode cX0_given 15 = .ok (.iload 5, 2) := by decide +kernel
theorem dX0_given_17 : decode cX0_given 17 = .ok (.iload 4, 2) := by decide +kernel
theorem dX0_given_19 : decode cX0_given 19 = .ok (.if_icmp .ge 82, 3) := by decide +kernel
theorem dX0_given_22 : decode cX0_given 22 = .ok (.aload_n 3, 1) := by decide +kernel
theorem dX0_given_23 : decode cX0_given 23 = .ok (.iload 5, 2) := by decide +kernel
theorem dX0_given_25 : decode cX0_given 25 = .ok (.aaload, 1) := by decide +kernel
theorem dX0_given_26 : decode cX0_given 26 = .ok (.astore 6, 2) := by decide +kernel
theorem dX0_given_28 : decode cX0_given 28 = .ok (.aload 6, 2) := by decide +kernel
theorem dX0_given_30 : decode cX0_given 30 = .ok (.getfield 127, 3) := by decide +kernel
theorem dX0_given_33 : decode cX0_given 33 = .ok (.ifCond .eq 62, 3) := by decide +kernel
theorem dX0_given_36 : decode cX0_given 36 = .ok (.aload_n 0, 1) := by decide +kernel
theorem dX0_given_37 : decode cX0_given 37 = .ok (.aload 6, 2) := by decide +kernel
theorem dX0_given_39 : decode cX0_given 39 = .ok (.getfield 135, 3) := by decide +kernel
theorem dX0_given_42 : decode cX0_given 42 = .ok (.invokevirtual 72, 3) := by decide +kernel
theorem dX0_given_45 : decode cX0_given 45 = .ok (.astore 7, 2) := by decide +kernel
theorem dX0_given_47 : decode cX0_given 47 = .ok (.aload 7, 2) := by decide +kernel
theorem dX0_given_49 : decode cX0_given 49 = .ok (.ifnonnull 8, 3) := by decide +kernel
theorem dX0_given_52 : decode cX0_given 52 = .ok (.ldc 186, 2) := by decide +kernel
theorem dX0_given_54 : decode cX0_given 54 = .ok (.goto 18, 3) := by decide +kernel
theorem dX0_given_57 : decode cX0_given 57 = .ok (.aload_n 0, 1) := by decide +kernel
theorem dX0_given_58 : decode cX0_given 58 = .ok (.getfield 20, 3) := by decide +kernel
theorem dX0_given_61 : decode cX0_given 61 = .ok (.aload 6, 2) := by decide +kernel
theorem dX0_given_63 : decode cX0_given 63 = .ok (.getfield 138, 3) := by decide +kernel
theorem dX0_given_66 : decode cX0_given 66 = .ok (.aload 7, 2) := by decide +kernel
theorem dX0_given_68 : decode cX0_given 68 = .ok (.iload_n 1, 1) := by decide +kernel
theorem dX0_given_69 : decode cX0_given 69 = .ok (.invokevirtual 116, 3) := by decide +kernel
theorem dX0_given_72 : decode cX0_given 72 = .ok (.istore 8, 2) := by decide +kernel
theorem dX0_given_74 : decode cX0_given 74 = .ok (.iload 8, 2) := by decide +kernel
theorem dX0_given_76 : decode cX0_given 76 = .ok (.ldc 186, 2) := by decide +kernel
theorem dX0_given_78 : decode cX0_given 78 = .ok (.if_icmp .ne 6, 3) := by decide +kernel
theorem dX0_given_81 : decode cX0_given 81 = .ok (.ldc 186, 2) := by decide +kernel
theorem dX0_given_83 : decode cX0_given 83 = .ok (.ireturn, 1) := by decide +kernel
theorem dX0_given_84 : decode cX0_given 84 = .ok (.iload_n 2, 1) := by decide +kernel
theorem dX0_given_85 : decode cX0_given 85 = .ok (.iload 8, 2) := by decide +kernel
theorem dX0_given_87 : decode cX0_given 87 = .ok (.aload 6, 2) := by decide +kernel
theorem dX0_given_89 : decode cX0_given 89 = .ok (.getfield 145, 3) := by decide +kernel
theorem dX0_given_92 : decode cX0_given 92 = .ok (.isub, 1) := by decide +kernel
theorem dX0_given_93 : decode cX0_given 93 = .ok (.iadd, 1) := by decide +kernel
theorem dX0_given_94 : decode cX0_given 94 = .ok (.istore_n 2, 1) := by decide +kernel
theorem dX0_given_95 : decode cX0_given 95 = .ok (.iinc 5 1, 3) := by decide +kernel
theorem dX0_given_98 : decode cX0_given 98 = .ok (.goto (-83), 3) := by decide +kernel
theorem dX0_given_101 : decode cX0_given 101 = .ok (.iload_n 2, 1) := by decide +kernel
theorem dX0_given_102 : decode cX0_given 102 = .ok (.ireturn, 1) := by decide +kernel
set_option maxRecDepth 20000 in
theorem ggX0_fairestRule_X0_given : GoodIn wsX0_fairestRule wsX0_given := goodIn_r _ [11, 2, 12, 13, 14, 1, 15, 16, 17, 18, 19, 20, 10, 21, 22, 23, 24, 25, 26, 27, 28, 29, 30, 31, 32, 33, 34, 5, 35, 36, 37, 38, 39, 40, 41, 42, 43, 44, 45, 46, 47, 48, 49, 50, 51, 52, 53, 54, 55, 56, 57, 58, 59, 60, 61, 62, 63, 64, 65, 66, 67, 68, 69, 70, 71, 72, 73, 74, 75, 76, 77, 78, 79, 80, 81, 82, 83, 84, 85, 86, 87, 88, 89, 90, 91, 92, 93, 94, 95, 96, 97, 98, 99, 100, 101] (by decide +kernel) (by decide +kernel)
set_option maxRecDepth 20000 in
theorem gX0_fairestRule_X0_given : GoodIn wsX0_fairestRule (wsV RX0 187 RX0 yX0_given wsX0_given) := goodIn_app (goodIn_of _ (by decide +kernel)) ggX0_fairestRule_X0_given
theorem dX0_fairestRule_0 : decode cX0_fairestRule 0 = .ok (.ldc 186, 2) := by decide +kernel
theorem dX0_fairestRule_2 : decode cX0_fairestRule 2 = .ok (.istore_n 1, 1) := by decide +kernel
theorem dX0_fairestRule_3 : decode cX0_fairestRule 3 = .ok (.iconst 0, 1) := by decide +kernel
theorem dX0_fairestRule_4 : decode cX0_fairestRule 4 = .ok (.istore_n 2, 1) := by decide +kernel
theorem dX0_fairestRule_5 : decode cX0_fairestRule 5 = .ok (.iconst 0, 1) := by decide +kernel
theorem dX0_fairestRule_6 : decode cX0_fairestRule 6 = .ok (.istore_n 3, 1) := by decide +kernel
theorem dX0_fairestRule_7 : decode cX0_fairestRule 7 = .ok (.iload_n 3, 1) := by decide +kernel
theorem dX0_fairestRule_8 : decode cX0_fairestRule 8 = .ok (.iconst 4, 1) := by decide +kernel
theorem dX0_fairestRule_9 : decode cX0_fairestRule 9 = .ok (.if_icmp .ge 53, 3) := by decide +kernel
theorem dX0_fairestRule_12 : decode cX0_fairestRule 12 = .ok (.aload_n 0, 1) := by decide +kernel
theorem dX0_fairestRule_13 : decode cX0_fairestRule 13 = .ok (.iload_n 3, 1) := by decide +kernel
theorem dX0_fairestRule_14 : decode cX0_fairestRule 14 = .ok (.invokevirtual 187, 3) := by decide +kernel
theorem dX0_fairestRule_17 : decode cX0_fairestRule 17 = .ok (.istore 4, 2) := by decide +kernel
theorem dX0_fairestRule_19 : decode cX0_fairestRule 19 = .ok (.iload 4, 2) := by decide +kernel
theorem dX0_fairestRule_21 : decode cX0_fairestRule 21 = .ok (.ldc 186, 2) := by decide +kernel
theorem dX0_fairestRule_23 : decode cX0_fairestRule 23 = .ok (.if_icmp .ne 6, 3) := by decide +kernel
theorem dX0_fairestRule_26 : decode cX0_fairestRule 26 = .ok (.ldc 186, 2) := by decide +kernel
theorem dX0_fairestRule_28 : decode cX0_fairestRule 28 = .ok (.ireturn, 1) := by decide +kernel
theorem dX0_fairestRule_29 : decode cX0_fairestRule 29 = .ok (.iload 4, 2) := by decide +kernel
theorem dX0_fairestRule_31 : decode cX0_fairestRule 31 = .ok (.ldc 159, 2) := by decide +kernel
theorem dX0_fairestRule_33 : decode cX0_fairestRule 33 = .ok (.isub, 1) := by decide +kernel
theorem dX0_fairestRule_34 : decode cX0_fairestRule 34 = .ok (.invokestatic 191, 3) := by decide +kernel
theorem dX0_fairestRule_37 : decode cX0_fairestRule 37 = .ok (.istore 5, 2) := by decide +kernel
theorem dX0_fairestRule_39 : decode cX0_fairestRule 39 = .ok (.iload_n 1, 1) := by decide +kernel
theorem dX0_fairestRule_40 : decode cX0_fairestRule 40 = .ok (.ldc 186, 2) := by decide +kernel
theorem dX0_fairestRule_42 : decode cX0_fairestRule 42 = .ok (.if_icmp .eq 9, 3) := by decide +kernel
theorem dX0_fairestRule_45 : decode cX0_fairestRule 45 = .ok (.iload 5, 2) := by decide +kernel
theorem dX0_fairestRule_47 : decode cX0_fairestRule 47 = .ok (.iload_n 2, 1) := by decide +kernel
theorem dX0_fairestRule_48 : decode cX0_fairestRule 48 = .ok (.if_icmp .ge 8, 3) := by decide +kernel
theorem dX0_fairestRule_51 : decode cX0_fairestRule 51 = .ok (.iload_n 3, 1) := by decide +kernel
theorem dX0_fairestRule_52 : decode cX0_fairestRule 52 = .ok (.istore_n 1, 1) := by decide +kernel
theorem dX0_fairestRule_53 : decode cX0_fairestRule 53 = .ok (.iload 5, 2) := by decide +kernel
theorem dX0_fairestRule_55 : decode cX0_fairestRule 55 = .ok (.istore_n 2, 1) := by decide +kernel
theorem dX0_fairestRule_56 : decode cX0_fairestRule 56 = .ok (.iinc 3 1, 3) := by decide +kernel
theorem dX0_fairestRule_59 : decode cX0_fairestRule 59 = .ok (.goto (-52), 3) := by decide +kernel
theorem dX0_fairestRule_62 : decode cX0_fairestRule 62 = .ok (.iload_n 1, 1) := by decide +kernel
theorem dX0_fairestRule_63 : decode cX0_fairestRule 63 = .ok (.ireturn, 1) := by decide +kernel
set_option maxRecDepth 20000 in
theorem ggX0_shopWith_X0_nextByPrice : GoodIn wsX0_shopWith wsX0_nextByPrice := goodIn_r _ [12, 13, 14, 15, 16, 11, 17, 2, 18, 19, 20, 21, 22, 23, 24, 25, 39, 40, 41, 42, 43, 44, 45, 46, 47, 32, 33, 34, 35, 36, 37, 38] (by decide +kernel) (by decide +kernel)
set_option maxRecDepth 20000 in
theorem gX0_shopWith_X0_nextByPrice : GoodIn wsX0_shopWith (wsV RX0 194 RX0 yX0_nextByPrice wsX0_nextByPrice) := goodIn_app (goodIn_of _ (by decide +kernel)) ggX0_shopWith_X0_nextByPrice
set_option maxRecDepth 20000 in
theorem ggX0_shopWith_X0_prizeAt : GoodIn wsX0_shopWith wsX0_prizeAt := goodIn_r _ [21, 13, 22, 23, 24, 25, 39, 40, 41, 42, 43, 44, 45, 46, 47] (by decide +kernel) (by decide +kernel)
set_option maxRecDepth 20000 in
theorem gX0_shopWith_X0_prizeAt : GoodIn wsX0_shopWith (wsV RX0 163 RX0 yX0_prizeAt wsX0_prizeAt) := goodIn_app (goodIn_of _ (by decide +kernel)) ggX0_shopWith_X0_prizeAt
set_option maxRecDepth 20000 in
theorem ggX0_shopWith_X9_quotient : GoodIn wsX0_shopWith wsX9_quotient := goodIn_r _ [27, 28, 29, 30, 31] (by decide +kernel) (by decide +kernel)
set_option maxRecDepth 20000 in
theorem gX0_shopWith_X9_quotient_n197 : GoodIn wsX0_shopWith (wsX9_quotient) := ggX0_shopWith_X9_quotient
theorem dX0_shopWith_0 : decode cX0_shopWith 0 = .ok (.iload_n 1, 1) := by decide +kernel
theorem dX0_shopWith_1 : decode cX0_shopWith 1 = .ok (.istore_n 3, 1) := by decide +kernel
theorem dX0_shopWith_2 : decode cX0_shopWith 2 = .ok (.iconst 0, 1) := by decide +kernel
theorem dX0_shopWith_3 : decode cX0_shopWith 3 = .ok (.istore 4, 2) := by decide +kernel
theorem dX0_shopWith_5 : decode cX0_shopWith 5 = .ok (.iconst 0, 1) := by decide +kernel
theorem dX0_shopWith_6 : decode cX0_shopWith 6 = .ok (.istore 5, 2) := by decide +kernel
theorem dX0_shopWith_8 : decode cX0_shopWith 8 = .ok (.iconst (-1), 1) := by decide +kernel
theorem dX0_shopWith_9 : decode cX0_shopWith 9 = .ok (.istore 6, 2) := by decide +kernel
theorem dX0_shopWith_11 : decode cX0_shopWith 11 = .ok (.iconst 0, 1) := by decide +kernel
theorem dX0_shopWith_12 : decode cX0_shopWith 12 = .ok (.istore 7, 2) := by decide +kernel
theorem dX0_shopWith_14 : decode cX0_shopWith 14 = .ok (.iload 7, 2) := by decide +kernel
theorem dX0_shopWith_16 : decode cX0_shopWith 16 = .ok (.bipush 6, 2) := by decide +kernel
theorem dX0_shopWith_18 : decode cX0_shopWith 18 = .ok (.if_icmp .ge 80, 3) := by decide +kernel
theorem dX0_shopWith_21 : decode cX0_shopWith 21 = .ok (.aload_n 0, 1) := by decide +kernel
theorem dX0_shopWith_22 : decode cX0_shopWith 22 = .ok (.iload 6, 2) := by decide +kernel
theorem dX0_shopWith_24 : decode cX0_shopWith 24 = .ok (.invokevirtual 194, 3) := by decide +kernel
theorem dX0_shopWith_27 : decode cX0_shopWith 27 = .ok (.istore 6, 2) := by decide +kernel
theorem dX0_shopWith_29 : decode cX0_shopWith 29 = .ok (.aload_n 0, 1) := by decide +kernel
theorem dX0_shopWith_30 : decode cX0_shopWith 30 = .ok (.iload 6, 2) := by decide +kernel
theorem dX0_shopWith_32 : decode cX0_shopWith 32 = .ok (.invokevirtual 163, 3) := by decide +kernel
theorem dX0_shopWith_35 : decode cX0_shopWith 35 = .ok (.astore 8, 2) := by decide +kernel
theorem dX0_shopWith_37 : decode cX0_shopWith 37 = .ok (.aload 8, 2) := by decide +kernel
theorem dX0_shopWith_39 : decode cX0_shopWith 39 = .ok (.ifnull 53, 3) := by decide +kernel
theorem dX0_shopWith_42 : decode cX0_shopWith 42 = .ok (.aload 8, 2) := by decide +kernel
theorem dX0_shopWith_44 : decode cX0_shopWith 44 = .ok (.getfield 167, 3) := by decide +kernel
theorem dX0_shopWith_47 : decode cX0_shopWith 47 = .ok (.iload_n 3, 1) := by decide +kernel
theorem dX0_shopWith_48 : decode cX0_shopWith 48 = .ok (.aload 8, 2) := by decide +kernel
theorem dX0_shopWith_50 : decode cX0_shopWith 50 = .ok (.getfield 170, 3) := by decide +kernel
theorem dX0_shopWith_53 : decode cX0_shopWith 53 = .ok (.invokestatic 197, 3) := by decide +kernel
theorem dX0_shopWith_56 : decode cX0_shopWith 56 = .ok (.invokestatic 92, 3) := by decide +kernel
theorem dX0_shopWith_59 : decode cX0_shopWith 59 = .ok (.istore 9, 2) := by decide +kernel
theorem dX0_shopWith_61 : decode cX0_shopWith 61 = .ok (.iload_n 3, 1) := by decide +kernel
theorem dX0_shopWith_62 : decode cX0_shopWith 62 = .ok (.iload 9, 2) := by decide +kernel
theorem dX0_shopWith_64 : decode cX0_shopWith 64 = .ok (.aload 8, 2) := by decide +kernel
theorem dX0_shopWith_66 : decode cX0_shopWith 66 = .ok (.getfield 170, 3) := by decide +kernel
theorem dX0_shopWith_69 : decode cX0_shopWith 69 = .ok (.imul, 1) := by decide +kernel
theorem dX0_shopWith_70 : decode cX0_shopWith 70 = .ok (.isub, 1) := by decide +kernel
theorem dX0_shopWith_71 : decode cX0_shopWith 71 = .ok (.istore_n 3, 1) := by decide +kernel
theorem dX0_shopWith_72 : decode cX0_shopWith 72 = .ok (.iload 4, 2) := by decide +kernel
theorem dX0_shopWith_74 : decode cX0_shopWith 74 = .ok (.iload 9, 2) := by decide +kernel
theorem dX0_shopWith_76 : decode cX0_shopWith 76 = .ok (.iadd, 1) := by decide +kernel
theorem dX0_shopWith_77 : decode cX0_shopWith 77 = .ok (.istore 4, 2) := by decide +kernel
theorem dX0_shopWith_79 : decode cX0_shopWith 79 = .ok (.iload 5, 2) := by decide +kernel
theorem dX0_shopWith_81 : decode cX0_shopWith 81 = .ok (.iload 9, 2) := by decide +kernel
theorem dX0_shopWith_83 : decode cX0_shopWith 83 = .ok (.aload 8, 2) := by decide +kernel
theorem dX0_shopWith_85 : decode cX0_shopWith 85 = .ok (.getfield 200, 3) := by decide +kernel
theorem dX0_shopWith_88 : decode cX0_shopWith 88 = .ok (.imul, 1) := by decide +kernel
theorem dX0_shopWith_89 : decode cX0_shopWith 89 = .ok (.iadd, 1) := by decide +kernel
theorem dX0_shopWith_90 : decode cX0_shopWith 90 = .ok (.istore 5, 2) := by decide +kernel
theorem dX0_shopWith_92 : decode cX0_shopWith 92 = .ok (.iinc 7 1, 3) := by decide +kernel
theorem dX0_shopWith_95 : decode cX0_shopWith 95 = .ok (.goto (-81), 3) := by decide +kernel
theorem dX0_shopWith_98 : decode cX0_shopWith 98 = .ok (.iload_n 2, 1) := by decide +kernel
theorem dX0_shopWith_99 : decode cX0_shopWith 99 = .ok (.lookupswitch 30 #[(0, 25), (1, 28)], 25) := by decide +kernel
theorem dX0_shopWith_124 : decode cX0_shopWith 124 = .ok (.iload 4, 2) := by decide +kernel
theorem dX0_shopWith_126 : decode cX0_shopWith 126 = .ok (.ireturn, 1) := by decide +kernel
theorem dX0_shopWith_127 : decode cX0_shopWith 127 = .ok (.iload_n 3, 1) := by decide +kernel
theorem dX0_shopWith_128 : decode cX0_shopWith 128 = .ok (.ireturn, 1) := by decide +kernel
theorem dX0_shopWith_129 : decode cX0_shopWith 129 = .ok (.iload 5, 2) := by decide +kernel
theorem dX0_shopWith_131 : decode cX0_shopWith 131 = .ok (.ireturn, 1) := by decide +kernel
set_option maxRecDepth 20000 in
theorem ggX0_nextByPrice_X0_isBehind : GoodIn wsX0_nextByPrice wsX0_isBehind := goodIn_r _ [6, 7, 8, 9, 10, 5, 11, 1, 12, 13, 14, 15, 25, 26, 27, 28, 29, 30, 31, 16, 17, 18, 19, 20, 21, 22, 23, 24] (by decide +kernel) (by decide +kernel)
set_option maxRecDepth 20000 in
theorem gX0_nextByPrice_X0_isBehind : GoodIn wsX0_nextByPrice (wsV RX0 201 RX0 yX0_isBehind wsX0_isBehind) := goodIn_app (goodIn_of _ (by decide +kernel)) ggX0_nextByPrice_X0_isBehind
theorem dX0_nextByPrice_0 : decode cX0_nextByPrice 0 = .ok (.aload_n 0, 1) := by decide +kernel
theorem dX0_nextByPrice_1 : decode cX0_nextByPrice 1 = .ok (.getfield 59, 3) := by decide +kernel
theorem dX0_nextByPrice_4 : decode cX0_nextByPrice 4 = .ok (.istore_n 2, 1) := by decide +kernel
theorem dX0_nextByPrice_5 : decode cX0_nextByPrice 5 = .ok (.iconst 0, 1) := by decide +kernel
theorem dX0_nextByPrice_6 : decode cX0_nextByPrice 6 = .ok (.istore_n 3, 1) := by decide +kernel
theorem dX0_nextByPrice_7 : decode cX0_nextByPrice 7 = .ok (.iload_n 3, 1) := by decide +kernel
theorem dX0_nextByPrice_8 : decode cX0_nextByPrice 8 = .ok (.bipush 6, 2) := by decide +kernel
theorem dX0_nextByPrice_10 : decode cX0_nextByPrice 10 = .ok (.if_icmp .ge 37, 3) := by decide +kernel
theorem dX0_nextByPrice_13 : decode cX0_nextByPrice 13 = .ok (.aload_n 0, 1) := by decide +kernel
theorem dX0_nextByPrice_14 : decode cX0_nextByPrice 14 = .ok (.iload_n 3, 1) := by decide +kernel
theorem dX0_nextByPrice_15 : decode cX0_nextByPrice 15 = .ok (.iload_n 1, 1) := by decide +kernel
theorem dX0_nextByPrice_16 : decode cX0_nextByPrice 16 = .ok (.invokevirtual 201, 3) := by decide +kernel
theorem dX0_nextByPrice_19 : decode cX0_nextByPrice 19 = .ok (.ifCond .eq 22, 3) := by decide +kernel
theorem dX0_nextByPrice_22 : decode cX0_nextByPrice 22 = .ok (.iload_n 2, 1) := by decide +kernel
theorem dX0_nextByPrice_23 : decode cX0_nextByPrice 23 = .ok (.aload_n 0, 1) := by decide +kernel
theorem dX0_nextByPrice_24 : decode cX0_nextByPrice 24 = .ok (.getfield 59, 3) := by decide +kernel
theorem dX0_nextByPrice_27 : decode cX0_nextByPrice 27 = .ok (.if_icmp .eq 12, 3) := by decide +kernel
theorem dX0_nextByPrice_30 : decode cX0_nextByPrice 30 = .ok (.aload_n 0, 1) := by decide +kernel
theorem dX0_nextByPrice_31 : decode cX0_nextByPrice 31 = .ok (.iload_n 2, 1) := by decide +kernel
theorem dX0_nextByPrice_32 : decode cX0_nextByPrice 32 = .ok (.iload_n 3, 1) := by decide +kernel
theorem dX0_nextByPrice_33 : decode cX0_nextByPrice 33 = .ok (.invokevirtual 201, 3) := by decide +kernel
theorem dX0_nextByPrice_36 : decode cX0_nextByPrice 36 = .ok (.ifCond .eq 5, 3) := by decide +kernel
theorem dX0_nextByPrice_39 : decode cX0_nextByPrice 39 = .ok (.iload_n 3, 1) := by decide +kernel
theorem dX0_nextByPrice_40 : decode cX0_nextByPrice 40 = .ok (.istore_n 2, 1) := by decide +kernel
theorem dX0_nextByPrice_41 : decode cX0_nextByPrice 41 = .ok (.iinc 3 1, 3) := by decide +kernel
theorem dX0_nextByPrice_44 : decode cX0_nextByPrice 44 = .ok (.goto (-37), 3) := by decide +kernel
theorem dX0_nextByPrice_47 : decode cX0_nextByPrice 47 = .ok (.iload_n 2, 1) := by decide +kernel
theorem dX0_nextByPrice_48 : decode cX0_nextByPrice 48 = .ok (.ireturn, 1) := by decide +kernel
set_option maxRecDepth 20000 in
theorem ggX0_isBehind_X0_prizeAt : GoodIn wsX0_isBehind wsX0_prizeAt := goodIn_r _ [6, 7, 8, 9, 10, 11, 19, 20, 21, 22, 23, 24, 25, 26, 27] (by decide +kernel) (by decide +kernel)
set_option maxRecDepth 20000 in
theorem gX0_isBehind_X0_prizeAt : GoodIn wsX0_isBehind (wsV RX0 163 RX0 yX0_prizeAt wsX0_prizeAt) := goodIn_app (goodIn_of _ (by decide +kernel)) ggX0_isBehind_X0_prizeAt
theorem dX0_isBehind_0 : decode cX0_isBehind 0 = .ok (.aload_n 0, 1) := by decide +kernel
theorem dX0_isBehind_1 : decode cX0_isBehind 1 = .ok (.iload_n 1, 1) := by decide +kernel
theorem dX0_isBehind_2 : decode cX0_isBehind 2 = .ok (.invokevirtual 163, 3) := by decide +kernel
theorem dX0_isBehind_5 : decode cX0_isBehind 5 = .ok (.astore_n 3, 1) := by decide +kernel
theorem dX0_isBehind_6 : decode cX0_isBehind 6 = .ok (.aload_n 0, 1) := by decide +kernel
theorem dX0_isBehind_7 : decode cX0_isBehind 7 = .ok (.iload_n 2, 1) := by decide +kernel
theorem dX0_isBehind_8 : decode cX0_isBehind 8 = .ok (.invokevirtual 163, 3) := by decide +kernel
theorem dX0_isBehind_11 : decode cX0_isBehind 11 = .ok (.astore 4, 2) := by decide +kernel
theorem dX0_isBehind_13 : decode cX0_isBehind 13 = .ok (.aload_n 3, 1) := by decide +kernel
theorem dX0_isBehind_14 : decode cX0_isBehind 14 = .ok (.ifnonnull 5, 3) := by decide +kernel
theorem dX0_isBehind_17 : decode cX0_isBehind 17 = .ok (.iconst 0, 1) := by decide +kernel
theorem dX0_isBehind_18 : decode cX0_isBehind 18 = .ok (.ireturn, 1) := by decide +kernel
theorem dX0_isBehind_19 : decode cX0_isBehind 19 = .ok (.aload 4, 2) := by decide +kernel
theorem dX0_isBehind_21 : decode cX0_isBehind 21 = .ok (.ifnonnull 13, 3) := by decide +kernel
theorem dX0_isBehind_24 : decode cX0_isBehind 24 = .ok (.iload_n 2, 1) := by decide +kernel
theorem dX0_isBehind_25 : decode cX0_isBehind 25 = .ok (.ifCond .ge 7, 3) := by decide +kernel
theorem dX0_isBehind_28 : decode cX0_isBehind 28 = .ok (.iconst 1, 1) := by decide +kernel
theorem dX0_isBehind_29 : decode cX0_isBehind 29 = .ok (.goto 4, 3) := by decide +kernel
theorem dX0_isBehind_32 : decode cX0_isBehind 32 = .ok (.iconst 0, 1) := by decide +kernel
theorem dX0_isBehind_33 : decode cX0_isBehind 33 = .ok (.ireturn, 1) := by decide +kernel
theorem dX0_isBehind_34 : decode cX0_isBehind 34 = .ok (.aload_n 3, 1) := by decide +kernel
theorem dX0_isBehind_35 : decode cX0_isBehind 35 = .ok (.getfield 170, 3) := by decide +kernel
theorem dX0_isBehind_38 : decode cX0_isBehind 38 = .ok (.aload 4, 2) := by decide +kernel
theorem dX0_isBehind_40 : decode cX0_isBehind 40 = .ok (.getfield 170, 3) := by decide +kernel
theorem dX0_isBehind_43 : decode cX0_isBehind 43 = .ok (.if_icmp .gt 20, 3) := by decide +kernel
theorem dX0_isBehind_46 : decode cX0_isBehind 46 = .ok (.aload_n 3, 1) := by decide +kernel
theorem dX0_isBehind_47 : decode cX0_isBehind 47 = .ok (.getfield 170, 3) := by decide +kernel
theorem dX0_isBehind_50 : decode cX0_isBehind 50 = .ok (.aload 4, 2) := by decide +kernel
theorem dX0_isBehind_52 : decode cX0_isBehind 52 = .ok (.getfield 170, 3) := by decide +kernel
theorem dX0_isBehind_55 : decode cX0_isBehind 55 = .ok (.if_icmp .ne 12, 3) := by decide +kernel
theorem dX0_isBehind_58 : decode cX0_isBehind 58 = .ok (.iload_n 1, 1) := by decide +kernel
theorem dX0_isBehind_59 : decode cX0_isBehind 59 = .ok (.iload_n 2, 1) := by decide +kernel
theorem dX0_isBehind_60 : decode cX0_isBehind 60 = .ok (.if_icmp .le 7, 3) := by decide +kernel
theorem dX0_isBehind_63 : decode cX0_isBehind 63 = .ok (.iconst 1, 1) := by decide +kernel
theorem dX0_isBehind_64 : decode cX0_isBehind 64 = .ok (.goto 4, 3) := by decide +kernel
theorem dX0_isBehind_67 : decode cX0_isBehind 67 = .ok (.iconst 0, 1) := by decide +kernel
theorem dX0_isBehind_68 : decode cX0_isBehind 68 = .ok (.ireturn, 1) := by decide +kernel
theorem dX1_init_0 : decode cX1_init 0 = .ok (.aload_n 0, 1) := by decide +kernel
theorem dX1_init_1 : decode cX1_init 1 = .ok (.invokespecial 3, 3) := by decide +kernel
theorem dX1_init_4 : decode cX1_init 4 = .ok (.return_, 1) := by decide +kernel
theorem dX1_copyFrom_0 : decode cX1_copyFrom 0 = .ok (.aload_n 0, 1) := by decide +kernel
theorem dX1_copyFrom_1 : decode cX1_copyFrom 1 = .ok (.aload_n 1, 1) := by decide +kernel
theorem dX1_copyFrom_2 : decode cX1_copyFrom 2 = .ok (.getfield 9, 3) := by decide +kernel
theorem dX1_copyFrom_5 : decode cX1_copyFrom 5 = .ok (.putfield 9, 3) := by decide +kernel
theorem dX1_copyFrom_8 : decode cX1_copyFrom 8 = .ok (.aload_n 0, 1) := by decide +kernel
theorem dX1_copyFrom_9 : decode cX1_copyFrom 9 = .ok (.aload_n 1, 1) := by decide +kernel
theorem dX1_copyFrom_10 : decode cX1_copyFrom 10 = .ok (.getfield 15, 3) := by decide +kernel
theorem dX1_copyFrom_13 : decode cX1_copyFrom 13 = .ok (.putfield 15, 3) := by decide +kernel
theorem dX1_copyFrom_16 : decode cX1_copyFrom 16 = .ok (.aload_n 0, 1) := by decide +kernel
theorem dX1_copyFrom_17 : decode cX1_copyFrom 17 = .ok (.aload_n 1, 1) := by decide +kernel
theorem dX1_copyFrom_18 : decode cX1_copyFrom 18 = .ok (.getfield 19, 3) := by decide +kernel
theorem dX1_copyFrom_21 : decode cX1_copyFrom 21 = .ok (.putfield 19, 3) := by decide +kernel
theorem dX1_copyFrom_24 : decode cX1_copyFrom 24 = .ok (.aload_n 0, 1) := by decide +kernel
theorem dX1_copyFrom_25 : decode cX1_copyFrom 25 = .ok (.aload_n 1, 1) := by decide +kernel
theorem dX1_copyFrom_26 : decode cX1_copyFrom 26 = .ok (.getfield 22, 3) := by decide +kernel
theorem dX1_copyFrom_29 : decode cX1_copyFrom 29 = .ok (.putfield 22, 3) := by decide +kernel
theorem dX1_copyFrom_32 : decode cX1_copyFrom 32 = .ok (.aload_n 0, 1) := by decide +kernel
theorem dX1_copyFrom_33 : decode cX1_copyFrom 33 = .ok (.aload_n 1, 1) := by decide +kernel
theorem dX1_copyFrom_34 : decode cX1_copyFrom 34 = .ok (.getfield 25, 3) := by decide +kernel
theorem dX1_copyFrom_37 : decode cX1_copyFrom 37 = .ok (.putfield 25, 3) := by decide +kernel
theorem dX1_copyFrom_40 : decode cX1_copyFrom 40 = .ok (.aload_n 0, 1) := by decide +kernel
theorem dX1_copyFrom_41 : decode cX1_copyFrom 41 = .ok (.aload_n 1, 1) := by decide +kernel
theorem dX1_copyFrom_42 : decode cX1_copyFrom 42 = .ok (.getfield 28, 3) := by decide +kernel
theorem dX1_copyFrom_45 : decode cX1_copyFrom 45 = .ok (.putfield 28, 3) := by decide +kernel
theorem dX1_copyFrom_48 : decode cX1_copyFrom 48 = .ok (.return_, 1) := by decide +kernel
theorem dX1_begin_0 : decode cX1_begin 0 = .ok (.aload_n 0, 1) := by decide +kernel
theorem dX1_begin_1 : decode cX1_begin 1 = .ok (.iload_n 1, 1) := by decide +kernel
theorem dX1_begin_2 : decode cX1_begin 2 = .ok (.putfield 9, 3) := by decide +kernel
theorem dX1_begin_5 : decode cX1_begin 5 = .ok (.aload_n 0, 1) := by decide +kernel
theorem dX1_begin_6 : decode cX1_begin 6 = .ok (.iconst 0, 1) := by decide +kernel
theorem dX1_begin_7 : decode cX1_begin 7 = .ok (.putfield 15, 3) := by decide +kernel
theorem dX1_begin_10 : decode cX1_begin 10 = .ok (.return_, 1) := by decide +kernel
theorem dX1_keep_0 : decode cX1_keep 0 = .ok (.aload_n 0, 1) := by decide +kernel
theorem dX1_keep_1 : decode cX1_keep 1 = .ok (.iconst 1, 1) := by decide +kernel
theorem dX1_keep_2 : decode cX1_keep 2 = .ok (.putfield 15, 3) := by decide +kernel
theorem dX1_keep_5 : decode cX1_keep 5 = .ok (.aload_n 0, 1) := by decide +kernel
theorem dX1_keep_6 : decode cX1_keep 6 = .ok (.iload_n 1, 1) := by decide +kernel
theorem dX1_keep_7 : decode cX1_keep 7 = .ok (.putfield 19, 3) := by decide +kernel
theorem dX1_keep_10 : decode cX1_keep 10 = .ok (.aload_n 0, 1) := by decide +kernel
theorem dX1_keep_11 : decode cX1_keep 11 = .ok (.iload_n 2, 1) := by decide +kernel
theorem dX1_keep_12 : decode cX1_keep 12 = .ok (.putfield 22, 3) := by decide +kernel
theorem dX1_keep_15 : decode cX1_keep 15 = .ok (.aload_n 0, 1) := by decide +kernel
theorem dX1_keep_16 : decode cX1_keep 16 = .ok (.iload_n 3, 1) := by decide +kernel
theorem dX1_keep_17 : decode cX1_keep 17 = .ok (.putfield 25, 3) := by decide +kernel
theorem dX1_keep_20 : decode cX1_keep 20 = .ok (.aload_n 0, 1) := by decide +kernel
theorem dX1_keep_21 : decode cX1_keep 21 = .ok (.iload 4, 2) := by decide +kernel
theorem dX1_keep_23 : decode cX1_keep 23 = .ok (.putfield 28, 3) := by decide +kernel
theorem dX1_keep_26 : decode cX1_keep 26 = .ok (.return_, 1) := by decide +kernel
theorem dX1_isNearer_0 : decode cX1_isNearer 0 = .ok (.iload_n 1, 1) := by decide +kernel
theorem dX1_isNearer_1 : decode cX1_isNearer 1 = .ok (.aload_n 0, 1) := by decide +kernel
theorem dX1_isNearer_2 : decode cX1_isNearer 2 = .ok (.getfield 22, 3) := by decide +kernel
theorem dX1_isNearer_5 : decode cX1_isNearer 5 = .ok (.isub, 1) := by decide +kernel
theorem dX1_isNearer_6 : decode cX1_isNearer 6 = .ok (.invokestatic 31, 3) := by decide +kernel
theorem dX1_isNearer_9 : decode cX1_isNearer 9 = .ok (.aload_n 0, 1) := by decide +kernel
theorem dX1_isNearer_10 : decode cX1_isNearer 10 = .ok (.getfield 28, 3) := by decide +kernel
theorem dX1_isNearer_13 : decode cX1_isNearer 13 = .ok (.aload_n 0, 1) := by decide +kernel
theorem dX1_isNearer_14 : decode cX1_isNearer 14 = .ok (.getfield 22, 3) := by decide +kernel
theorem dX1_isNearer_17 : decode cX1_isNearer 17 = .ok (.isub, 1) := by decide +kernel
theorem dX1_isNearer_18 : decode cX1_isNearer 18 = .ok (.invokestatic 31, 3) := by decide +kernel
theorem dX1_isNearer_21 : decode cX1_isNearer 21 = .ok (.if_icmp .ge 7, 3) := by decide +kernel
theorem dX1_isNearer_24 : decode cX1_isNearer 24 = .ok (.iconst 1, 1) := by decide +kernel
theorem dX1_isNearer_25 : decode cX1_isNearer 25 = .ok (.goto 4, 3) := by decide +kernel
theorem dX1_isNearer_28 : decode cX1_isNearer 28 = .ok (.iconst 0, 1) := by decide +kernel
theorem dX1_isNearer_29 : decode cX1_isNearer 29 = .ok (.ireturn, 1) := by decide +kernel
theorem dX1_gain_0 : decode cX1_gain 0 = .ok (.aload_n 0, 1) := by decide +kernel
theorem dX1_gain_1 : decode cX1_gain 1 = .ok (.iconst 0, 1) := by decide +kernel
theorem dX1_gain_2 : decode cX1_gain 2 = .ok (.aload_n 0, 1) := by decide +kernel
theorem dX1_gain_3 : decode cX1_gain 3 = .ok (.getfield 9, 3) := by decide +kernel
theorem dX1_gain_6 : decode cX1_gain 6 = .ok (.iload_n 1, 1) := by decide +kernel
theorem dX1_gain_7 : decode cX1_gain 7 = .ok (.iadd, 1) := by decide +kernel
theorem dX1_gain_8 : decode cX1_gain 8 = .ok (.invokestatic 37, 3) := by decide +kernel
theorem dX1_gain_11 : decode cX1_gain 11 = .ok (.putfield 9, 3) := by decide +kernel
theorem dX1_gain_14 : decode cX1_gain 14 = .ok (.return_, 1) := by decide +kernel
set_option maxRecDepth 20000 in
theorem ggX1_part_X9_within : GoodIn wsX1_part wsX9_within := goodIn_r _ [11] (by decide +kernel) (by decide +kernel)
set_option maxRecDepth 20000 in
theorem gX1_part_X9_within_n41 : GoodIn wsX1_part (wsX9_within) := ggX1_part_X9_within
theorem dX1_part_0 : decode cX1_part 0 = .ok (.iload_n 1, 1) := by decide +kernel
theorem dX1_part_1 : decode cX1_part 1 = .ok (.iconst 0, 1) := by decide +kernel
theorem dX1_part_2 : decode cX1_part 2 = .ok (.iconst 4, 1) := by decide +kernel
theorem dX1_part_3 : decode cX1_part 3 = .ok (.invokestatic 41, 3) := by decide +kernel
theorem dX1_part_6 : decode cX1_part 6 = .ok (.ifCond .ne 6, 3) := by decide +kernel
theorem dX1_part_9 : decode cX1_part 9 = .ok (.ldc 45, 2) := by decide +kernel
theorem dX1_part_11 : decode cX1_part 11 = .ok (.ireturn, 1) := by decide +kernel
theorem dX1_part_12 : decode cX1_part 12 = .ok (.iload_n 1, 1) := by decide +kernel
theorem dX1_part_13 : decode cX1_part 13 = .ok (.ifCond .ne 8, 3) := by decide +kernel
theorem dX1_part_16 : decode cX1_part 16 = .ok (.aload_n 0, 1) := by decide +kernel
theorem dX1_part_17 : decode cX1_part 17 = .ok (.getfield 9, 3) := by decide +kernel
theorem dX1_part_20 : decode cX1_part 20 = .ok (.ireturn, 1) := by decide +kernel
theorem dX1_part_21 : decode cX1_part 21 = .ok (.aload_n 0, 1) := by decide +kernel
theorem dX1_part_22 : decode cX1_part 22 = .ok (.getfield 15, 3) := by decide +kernel
theorem dX1_part_25 : decode cX1_part 25 = .ok (.ifCond .ne 6, 3) := by decide +kernel
theorem dX1_part_28 : decode cX1_part 28 = .ok (.ldc 46, 2) := by decide +kernel
theorem dX1_part_30 : decode cX1_part 30 = .ok (.ireturn, 1) := by decide +kernel
theorem dX1_part_31 : decode cX1_part 31 = .ok (.iload_n 1, 1) := by decide +kernel
theorem dX1_part_32 : decode cX1_part 32 = .ok (.tableswitch 43 1 3 #[28, 33, 38], 28) := by decide +kernel
theorem dX1_part_60 : decode cX1_part 60 = .ok (.aload_n 0, 1) := by decide +kernel
theorem dX1_part_61 : decode cX1_part 61 = .ok (.getfield 19, 3) := by decide +kernel
theorem dX1_part_64 : decode cX1_part 64 = .ok (.ireturn, 1) := by decide +kernel
theorem dX1_part_65 : decode cX1_part 65 = .ok (.aload_n 0, 1) := by decide +kernel
theorem dX1_part_66 : decode cX1_part 66 = .ok (.getfield 22, 3) := by decide +kernel
theorem dX1_part_69 : decode cX1_part 69 = .ok (.ireturn, 1) := by decide +kernel
theorem dX1_part_70 : decode cX1_part 70 = .ok (.aload_n 0, 1) := by decide +kernel
theorem dX1_part_71 : decode cX1_part 71 = .ok (.getfield 25, 3) := by decide +kernel
theorem dX1_part_74 : decode cX1_part 74 = .ok (.ireturn, 1) := by decide +kernel
theorem dX1_part_75 : decode cX1_part 75 = .ok (.aload_n 0, 1) := by decide +kernel
theorem dX1_part_76 : decode cX1_part 76 = .ok (.getfield 28, 3) := by decide +kernel
theorem dX1_part_79 : decode cX1_part 79 = .ok (.ireturn, 1) := by decide +kernel
theorem dX2_init_0 : decode cX2_init 0 = .ok (.aload_n 0, 1) := by decide +kernel
theorem dX2_init_1 : decode cX2_init 1 = .ok (.invokespecial 3, 3) := by decide +kernel
theorem dX2_init_4 : decode cX2_init 4 = .ok (.return_, 1) := by decide +kernel
set_option maxRecDepth 20000 in
theorem ggX3_init_X8_init : GoodIn wsX3_init wsX8_init := goodIn_r _ [12, 13, 2, 3, 14, 15, 16, 17, 18, 19, 20, 21, 22, 23, 24, 25, 26, 27, 28, 29, 30, 31, 32, 33, 34, 35, 36, 37, 38, 39, 40, 41, 42, 43, 44, 45, 46, 47, 48, 49, 50, 51, 52, 53, 54, 55, 56, 57, 65, 66, 67, 68, 69, 70, 71, 72, 73, 62, 63, 64, 74, 75, 76, 77, 78, 79, 80, 81, 82, 83, 84, 85, 86, 87, 88, 89, 90, 91] (by decide +kernel) (by decide +kernel)
set_option maxRecDepth 20000 in
theorem gX3_init_X8_init : GoodIn wsX3_init (wsX8_init) := ggX3_init_X8_init
theorem dX3_init_0 : decode cX3_init 0 = .ok (.aload_n 0, 1) := by decide +kernel
theorem dX3_init_1 : decode cX3_init 1 = .ok (.invokespecial 3, 3) := by decide +kernel
theorem dX3_init_4 : decode cX3_init 4 = .ok (.aload_n 0, 1) := by decide +kernel
theorem dX3_init_5 : decode cX3_init 5 = .ok (.iconst 5, 1) := by decide +kernel
theorem dX3_init_6 : decode cX3_init 6 = .ok (.anewarray 9, 3) := by decide +kernel
theorem dX3_init_9 : decode cX3_init 9 = .ok (.putfield 11, 3) := by decide +kernel
theorem dX3_init_12 : decode cX3_init 12 = .ok (.aload_n 0, 1) := by decide +kernel
theorem dX3_init_13 : decode cX3_init 13 = .ok (.new 9, 3) := by decide +kernel
theorem dX3_init_16 : decode cX3_init 16 = .ok (.dup, 1) := by decide +kernel
theorem dX3_init_17 : decode cX3_init 17 = .ok (.invokespecial 17, 3) := by decide +kernel
theorem dX3_init_20 : decode cX3_init 20 = .ok (.putfield 18, 3) := by decide +kernel
theorem dX3_init_23 : decode cX3_init 23 = .ok (.aload_n 0, 1) := by decide +kernel
theorem dX3_init_24 : decode cX3_init 24 = .ok (.new 9, 3) := by decide +kernel
theorem dX3_init_27 : decode cX3_init 27 = .ok (.dup, 1) := by decide +kernel
theorem dX3_init_28 : decode cX3_init 28 = .ok (.invokespecial 17, 3) := by decide +kernel
theorem dX3_init_31 : decode cX3_init 31 = .ok (.putfield 22, 3) := by decide +kernel
theorem dX3_init_34 : decode cX3_init 34 = .ok (.iconst 0, 1) := by decide +kernel
theorem dX3_init_35 : decode cX3_init 35 = .ok (.istore_n 1, 1) := by decide +kernel
theorem dX3_init_36 : decode cX3_init 36 = .ok (.iload_n 1, 1) := by decide +kernel
theorem dX3_init_37 : decode cX3_init 37 = .ok (.iconst 5, 1) := by decide +kernel
theorem dX3_init_38 : decode cX3_init 38 = .ok (.if_icmp .ge 22, 3) := by decide +kernel
theorem dX3_init_41 : decode cX3_init 41 = .ok (.aload_n 0, 1) := by decide +kernel
theorem dX3_init_42 : decode cX3_init 42 = .ok (.getfield 11, 3) := by decide +kernel
theorem dX3_init_45 : decode cX3_init 45 = .ok (.iload_n 1, 1) := by decide +kernel
theorem dX3_init_46 : decode cX3_init 46 = .ok (.new 9, 3) := by decide +kernel
theorem dX3_init_49 : decode cX3_init 49 = .ok (.dup, 1) := by decide +kernel
theorem dX3_init_50 : decode cX3_init 50 = .ok (.invokespecial 17, 3) := by decide +kernel
theorem dX3_init_53 : decode cX3_init 53 = .ok (.aastore, 1) := by decide +kernel
theorem dX3_init_54 : decode cX3_init 54 = .ok (.iinc 1 1, 3) := by decide +kernel
theorem dX3_init_57 : decode cX3_init 57 = .ok (.goto (-21), 3) := by decide +kernel
theorem dX3_init_60 : decode cX3_init 60 = .ok (.return_, 1) := by decide +kernel
set_option maxRecDepth 20000 in
theorem ggX3_prepare_X8_copyFrom : GoodIn wsX3_prepare wsX8_copyFrom := goodIn_r _ [7, 8, 9, 10, 11, 12, 13, 14, 15, 16, 17, 18, 19, 20, 21, 22, 23, 24, 25, 26, 27, 28, 29, 30, 31, 32, 33, 34, 35, 36, 37, 38, 39, 40, 41, 42, 43, 44, 45, 46, 47, 48, 49, 50, 51, 52, 53, 54, 55, 56, 57, 58, 59, 60, 61, 62, 67, 68, 69, 70, 71, 72, 73, 74, 75, 76, 77, 78, 79, 80, 81, 82, 83, 84, 85, 86, 87, 88, 89, 90, 91, 92, 93, 94, 95, 96] (by decide +kernel) (by decide +kernel)
set_option maxRecDepth 20000 in
theorem gX3_prepare_X8_copyFrom : GoodIn wsX3_prepare (wsV RX3 25 RX8 yX8_copyFrom wsX8_copyFrom) := goodIn_app (goodIn_of _ (by decide +kernel)) ggX3_prepare_X8_copyFrom
theorem dX3_prepare_0 : decode cX3_prepare 0 = .ok (.aload_n 0, 1) := by decide +kernel
theorem dX3_prepare_1 : decode cX3_prepare 1 = .ok (.getfield 22, 3) := by decide +kernel
theorem dX3_prepare_4 : decode cX3_prepare 4 = .ok (.aload_n 0, 1) := by decide +kernel
theorem dX3_prepare_5 : decode cX3_prepare 5 = .ok (.getfield 18, 3) := by decide +kernel
theorem dX3_prepare_8 : decode cX3_prepare 8 = .ok (.invokevirtual 25, 3) := by decide +kernel
theorem dX3_prepare_11 : decode cX3_prepare 11 = .ok (.return_, 1) := by decide +kernel
set_option maxRecDepth 20000 in
theorem ggX3_settle_X9_isError : GoodIn wsX3_settle wsX9_isError := goodIn_r _ [3, 4, 5, 6] (by decide +kernel) (by decide +kernel)
set_option maxRecDepth 20000 in
theorem gX3_settle_X9_isError_n29 : GoodIn wsX3_settle (wsX9_isError) := ggX3_settle_X9_isError
set_option maxRecDepth 20000 in
theorem ggX3_settle_X3_recordSpare : GoodIn wsX3_settle wsX3_recordSpare := goodIn_r _ [11, 12, 13, 14, 15, 16, 17, 10, 18, 19, 2, 20, 21, 22, 23, 24] (by decide +kernel) (by decide +kernel)
set_option maxRecDepth 20000 in
theorem gX3_settle_X3_recordSpare : GoodIn wsX3_settle (wsV RX3 33 RX3 yX3_recordSpare wsX3_recordSpare) := goodIn_app (goodIn_of _ (by decide +kernel)) ggX3_settle_X3_recordSpare
theorem dX3_settle_0 : decode cX3_settle 0 = .ok (.iload_n 1, 1) := by decide +kernel
theorem dX3_settle_1 : decode cX3_settle 1 = .ok (.invokestatic 29, 3) := by decide +kernel
theorem dX3_settle_4 : decode cX3_settle 4 = .ok (.ifCond .ne 7, 3) := by decide +kernel
theorem dX3_settle_7 : decode cX3_settle 7 = .ok (.aload_n 0, 1) := by decide +kernel
theorem dX3_settle_8 : decode cX3_settle 8 = .ok (.invokevirtual 33, 3) := by decide +kernel
theorem dX3_settle_11 : decode cX3_settle 11 = .ok (.iload_n 1, 1) := by decide +kernel
theorem dX3_settle_12 : decode cX3_settle 12 = .ok (.ireturn, 1) := by decide +kernel
set_option maxRecDepth 20000 in
theorem ggX3_recordSpare_X3_dropOldest : GoodIn wsX3_recordSpare wsX3_dropOldest := goodIn_r _ [8, 2, 1, 12, 13, 14, 15] (by decide +kernel) (by decide +kernel)
set_option maxRecDepth 20000 in
theorem gX3_recordSpare_X3_dropOldest : GoodIn wsX3_recordSpare (wsV RX3 40 RX3 yX3_dropOldest wsX3_dropOldest) := goodIn_app (goodIn_of _ (by decide +kernel)) ggX3_recordSpare_X3_dropOldest
set_option maxRecDepth 20000 in
theorem ggX3_recordSpare_X9_within : GoodIn wsX3_recordSpare wsX9_within := goodIn_r _ [11] (by decide +kernel) (by decide +kernel)
set_option maxRecDepth 20000 in
theorem gX3_recordSpare_X9_within_n43 : GoodIn wsX3_recordSpare (wsX9_within) := ggX3_recordSpare_X9_within
theorem dX3_recordSpare_0 : decode cX3_recordSpare 0 = .ok (.aload_n 0, 1) := by decide +kernel
theorem dX3_recordSpare_1 : decode cX3_recordSpare 1 = .ok (.getfield 36, 3) := by decide +kernel
theorem dX3_recordSpare_4 : decode cX3_recordSpare 4 = .ok (.iconst 5, 1) := by decide +kernel
theorem dX3_recordSpare_5 : decode cX3_recordSpare 5 = .ok (.if_icmp .lt 7, 3) := by decide +kernel
theorem dX3_recordSpare_8 : decode cX3_recordSpare 8 = .ok (.aload_n 0, 1) := by decide +kernel
theorem dX3_recordSpare_9 : decode cX3_recordSpare 9 = .ok (.invokevirtual 40, 3) := by decide +kernel
theorem dX3_recordSpare_12 : decode cX3_recordSpare 12 = .ok (.aload_n 0, 1) := by decide +kernel
theorem dX3_recordSpare_13 : decode cX3_recordSpare 13 = .ok (.getfield 36, 3) := by decide +kernel
theorem dX3_recordSpare_16 : decode cX3_recordSpare 16 = .ok (.iconst 0, 1) := by decide +kernel
theorem dX3_recordSpare_17 : decode cX3_recordSpare 17 = .ok (.iconst 4, 1) := by decide +kernel
theorem dX3_recordSpare_18 : decode cX3_recordSpare 18 = .ok (.invokestatic 43, 3) := by decide +kernel
theorem dX3_recordSpare_21 : decode cX3_recordSpare 21 = .ok (.ifCond .eq 41, 3) := by decide +kernel
theorem dX3_recordSpare_24 : decode cX3_recordSpare 24 = .ok (.aload_n 0, 1) := by decide +kernel
theorem dX3_recordSpare_25 : decode cX3_recordSpare 25 = .ok (.getfield 11, 3) := by decide +kernel
theorem dX3_recordSpare_28 : decode cX3_recordSpare 28 = .ok (.aload_n 0, 1) := by decide +kernel
theorem dX3_recordSpare_29 : decode cX3_recordSpare 29 = .ok (.getfield 36, 3) := by decide +kernel
theorem dX3_recordSpare_32 : decode cX3_recordSpare 32 = .ok (.aaload, 1) := by decide +kernel
theorem dX3_recordSpare_33 : decode cX3_recordSpare 33 = .ok (.astore_n 1, 1) := by decide +kernel
theorem dX3_recordSpare_34 : decode cX3_recordSpare 34 = .ok (.aload_n 0, 1) := by decide +kernel
theorem dX3_recordSpare_35 : decode cX3_recordSpare 35 = .ok (.getfield 11, 3) := by decide +kernel
theorem dX3_recordSpare_38 : decode cX3_recordSpare 38 = .ok (.aload_n 0, 1) := by decide +kernel
theorem dX3_recordSpare_39 : decode cX3_recordSpare 39 = .ok (.getfield 36, 3) := by decide +kernel
theorem dX3_recordSpare_42 : decode cX3_recordSpare 42 = .ok (.aload_n 0, 1) := by decide +kernel
theorem dX3_recordSpare_43 : decode cX3_recordSpare 43 = .ok (.getfield 22, 3) := by decide +kernel
theorem dX3_recordSpare_46 : decode cX3_recordSpare 46 = .ok (.aastore, 1) := by decide +kernel
theorem dX3_recordSpare_47 : decode cX3_recordSpare 47 = .ok (.aload_n 0, 1) := by decide +kernel
theorem dX3_recordSpare_48 : decode cX3_recordSpare 48 = .ok (.aload_n 1, 1) := by decide +kernel
theorem dX3_recordSpare_49 : decode cX3_recordSpare 49 = .ok (.putfield 22, 3) := by decide +kernel
theorem dX3_recordSpare_52 : decode cX3_recordSpare 52 = .ok (.aload_n 0, 1) := by decide +kernel
theorem dX3_recordSpare_53 : decode cX3_recordSpare 53 = .ok (.dup, 1) := by decide +kernel
theorem dX3_recordSpare_54 : decode cX3_recordSpare 54 = .ok (.getfield 36, 3) := by decide +kernel
theorem dX3_recordSpare_57 : decode cX3_recordSpare 57 = .ok (.iconst 1, 1) := by decide +kernel
theorem dX3_recordSpare_58 : decode cX3_recordSpare 58 = .ok (.iadd, 1) := by decide +kernel
theorem dX3_recordSpare_59 : decode cX3_recordSpare 59 = .ok (.putfield 36, 3) := by decide +kernel
theorem dX3_recordSpare_62 : decode cX3_recordSpare 62 = .ok (.return_, 1) := by decide +kernel
theorem dX3_dropOldest_0 : decode cX3_dropOldest 0 = .ok (.aload_n 0, 1) := by decide +kernel
theorem dX3_dropOldest_1 : decode cX3_dropOldest 1 = .ok (.getfield 11, 3) := by decide +kernel
theorem dX3_dropOldest_4 : decode cX3_dropOldest 4 = .ok (.iconst 0, 1) := by decide +kernel
theorem dX3_dropOldest_5 : decode cX3_dropOldest 5 = .ok (.aaload, 1) := by decide +kernel
theorem dX3_dropOldest_6 : decode cX3_dropOldest 6 = .ok (.astore_n 1, 1) := by decide +kernel
theorem dX3_dropOldest_7 : decode cX3_dropOldest 7 = .ok (.iconst 0, 1) := by decide +kernel
theorem dX3_dropOldest_8 : decode cX3_dropOldest 8 = .ok (.istore_n 2, 1) := by decide +kernel
theorem dX3_dropOldest_9 : decode cX3_dropOldest 9 = .ok (.iload_n 2, 1) := by decide +kernel
theorem dX3_dropOldest_10 : decode cX3_dropOldest 10 = .ok (.iconst 4, 1) := by decide +kernel
theorem dX3_dropOldest_11 : decode cX3_dropOldest 11 = .ok (.if_icmp .ge 23, 3) := by decide +kernel
theorem dX3_dropOldest_14 : decode cX3_dropOldest 14 = .ok (.aload_n 0, 1) := by decide +kernel
theorem dX3_dropOldest_15 : decode cX3_dropOldest 15 = .ok (.getfield 11, 3) := by decide +kernel
theorem dX3_dropOldest_18 : decode cX3_dropOldest 18 = .ok (.iload_n 2, 1) := by decide +kernel
theorem dX3_dropOldest_19 : decode cX3_dropOldest 19 = .ok (.aload_n 0, 1) := by decide +kernel
theorem dX3_dropOldest_20 : decode cX3_dropOldest 20 = .ok (.getfield 11, 3) := by decide +kernel
theorem dX3_dropOldest_23 : decode cX3_dropOldest 23 = .ok (.iload_n 2, 1) := by decide +kernel
theorem dX3_dropOldest_24 : decode cX3_dropOldest 24 = .ok (.iconst 1, 1) := by decide +kernel
theorem dX3_dropOldest_25 : decode cX3_dropOldest 25 = .ok (.iadd, 1) := by decide +kernel
theorem dX3_dropOldest_26 : decode cX3_dropOldest 26 = .ok (.aaload, 1) := by decide +kernel
theorem dX3_dropOldest_27 : decode cX3_dropOldest 27 = .ok (.aastore, 1) := by decide +kernel
theorem dX3_dropOldest_28 : decode cX3_dropOldest 28 = .ok (.iinc 2 1, 3) := by decide +kernel
theorem dX3_dropOldest_31 : decode cX3_dropOldest 31 = .ok (.goto (-22), 3) := by decide +kernel
theorem dX3_dropOldest_34 : decode cX3_dropOldest 34 = .ok (.aload_n 0, 1) := by decide +kernel
theorem dX3_dropOldest_35 : decode cX3_dropOldest 35 = .ok (.getfield 11, 3) := by decide +kernel
theorem dX3_dropOldest_38 : decode cX3_dropOldest 38 = .ok (.iconst 4, 1) := by decide +kernel
theorem dX3_dropOldest_39 : decode cX3_dropOldest 39 = .ok (.aload_n 1, 1) := by decide +kernel
theorem dX3_dropOldest_40 : decode cX3_dropOldest 40 = .ok (.aastore, 1) := by decide +kernel
theorem dX3_dropOldest_41 : decode cX3_dropOldest 41 = .ok (.aload_n 0, 1) := by decide +kernel
theorem dX3_dropOldest_42 : decode cX3_dropOldest 42 = .ok (.iconst 4, 1) := by decide +kernel
theorem dX3_dropOldest_43 : decode cX3_dropOldest 43 = .ok (.putfield 36, 3) := by decide +kernel
theorem dX3_dropOldest_46 : decode cX3_dropOldest 46 = .ok (.return_, 1) := by decide +kernel
set_option maxRecDepth 20000 in
theorem ggX3_stepBack_X9_within : GoodIn wsX3_stepBack wsX9_within := goodIn_r _ [7] (by decide +kernel) (by decide +kernel)
set_option maxRecDepth 20000 in
theorem gX3_stepBack_X9_within_n43 : GoodIn wsX3_stepBack (wsX9_within) := ggX3_stepBack_X9_within
theorem dX3_stepBack_0 : decode cX3_stepBack 0 = .ok (.aload_n 0, 1) := by decide +kernel
theorem dX3_stepBack_1 : decode cX3_stepBack 1 = .ok (.getfield 36, 3) := by decide +kernel
theorem dX3_stepBack_4 : decode cX3_stepBack 4 = .ok (.iconst 1, 1) := by decide +kernel
theorem dX3_stepBack_5 : decode cX3_stepBack 5 = .ok (.isub, 1) := by decide +kernel
theorem dX3_stepBack_6 : decode cX3_stepBack 6 = .ok (.istore_n 1, 1) := by decide +kernel
theorem dX3_stepBack_7 : decode cX3_stepBack 7 = .ok (.iload_n 1, 1) := by decide +kernel
theorem dX3_stepBack_8 : decode cX3_stepBack 8 = .ok (.iconst 0, 1) := by decide +kernel
theorem dX3_stepBack_9 : decode cX3_stepBack 9 = .ok (.iconst 4, 1) := by decide +kernel
theorem dX3_stepBack_10 : decode cX3_stepBack 10 = .ok (.invokestatic 43, 3) := by decide +kernel
theorem dX3_stepBack_13 : decode cX3_stepBack 13 = .ok (.ifCond .ne 6, 3) := by decide +kernel
theorem dX3_stepBack_16 : decode cX3_stepBack 16 = .ok (.ldc 47, 2) := by decide +kernel
theorem dX3_stepBack_18 : decode cX3_stepBack 18 = .ok (.ireturn, 1) := by decide +kernel
theorem dX3_stepBack_19 : decode cX3_stepBack 19 = .ok (.aload_n 0, 1) := by decide +kernel
theorem dX3_stepBack_20 : decode cX3_stepBack 20 = .ok (.getfield 18, 3) := by decide +kernel
theorem dX3_stepBack_23 : decode cX3_stepBack 23 = .ok (.astore_n 2, 1) := by decide +kernel
theorem dX3_stepBack_24 : decode cX3_stepBack 24 = .ok (.aload_n 0, 1) := by decide +kernel
theorem dX3_stepBack_25 : decode cX3_stepBack 25 = .ok (.aload_n 0, 1) := by decide +kernel
theorem dX3_stepBack_26 : decode cX3_stepBack 26 = .ok (.getfield 11, 3) := by decide +kernel
theorem dX3_stepBack_29 : decode cX3_stepBack 29 = .ok (.iload_n 1, 1) := by decide +kernel
theorem dX3_stepBack_30 : decode cX3_stepBack 30 = .ok (.aaload, 1) := by decide +kernel
theorem dX3_stepBack_31 : decode cX3_stepBack 31 = .ok (.putfield 18, 3) := by decide +kernel
theorem dX3_stepBack_34 : decode cX3_stepBack 34 = .ok (.aload_n 0, 1) := by decide +kernel
theorem dX3_stepBack_35 : decode cX3_stepBack 35 = .ok (.getfield 11, 3) := by decide +kernel
theorem dX3_stepBack_38 : decode cX3_stepBack 38 = .ok (.iload_n 1, 1) := by decide +kernel
theorem dX3_stepBack_39 : decode cX3_stepBack 39 = .ok (.aload_n 2, 1) := by decide +kernel
theorem dX3_stepBack_40 : decode cX3_stepBack 40 = .ok (.aastore, 1) := by decide +kernel
theorem dX3_stepBack_41 : decode cX3_stepBack 41 = .ok (.aload_n 0, 1) := by decide +kernel
theorem dX3_stepBack_42 : decode cX3_stepBack 42 = .ok (.iload_n 1, 1) := by decide +kernel
theorem dX3_stepBack_43 : decode cX3_stepBack 43 = .ok (.putfield 36, 3) := by decide +kernel
theorem dX3_stepBack_46 : decode cX3_stepBack 46 = .ok (.aload_n 0, 1) := by decide +kernel
theorem dX3_stepBack_47 : decode cX3_stepBack 47 = .ok (.getfield 36, 3) := by decide +kernel
theorem dX3_stepBack_50 : decode cX3_stepBack 50 = .ok (.ireturn, 1) := by decide +kernel
theorem dX4_init_0 : decode cX4_init 0 = .ok (.aload_n 0, 1) := by decide +kernel
theorem dX4_init_1 : decode cX4_init 1 = .ok (.invokespecial 1, 3) := by decide +kernel
theorem dX4_init_4 : decode cX4_init 4 = .ok (.aload_n 0, 1) := by decide +kernel
theorem dX4_init_5 : decode cX4_init 5 = .ok (.sipush 1000, 3) := by decide +kernel
theorem dX4_init_8 : decode cX4_init 8 = .ok (.putfield 7, 3) := by decide +kernel
theorem dX4_init_11 : decode cX4_init 11 = .ok (.aload_n 0, 1) := by decide +kernel
theorem dX4_init_12 : decode cX4_init 12 = .ok (.bipush 10, 2) := by decide +kernel
theorem dX4_init_14 : decode cX4_init 14 = .ok (.putfield 13, 3) := by decide +kernel
theorem dX4_init_17 : decode cX4_init 17 = .ok (.return_, 1) := by decide +kernel
theorem dX4_copyFrom_0 : decode cX4_copyFrom 0 = .ok (.aload_n 0, 1) := by decide +kernel
theorem dX4_copyFrom_1 : decode cX4_copyFrom 1 = .ok (.aload_n 1, 1) := by decide +kernel
theorem dX4_copyFrom_2 : decode cX4_copyFrom 2 = .ok (.getfield 7, 3) := by decide +kernel
theorem dX4_copyFrom_5 : decode cX4_copyFrom 5 = .ok (.putfield 7, 3) := by decide +kernel
theorem dX4_copyFrom_8 : decode cX4_copyFrom 8 = .ok (.aload_n 0, 1) := by decide +kernel
theorem dX4_copyFrom_9 : decode cX4_copyFrom 9 = .ok (.aload_n 1, 1) := by decide +kernel
theorem dX4_copyFrom_10 : decode cX4_copyFrom 10 = .ok (.getfield 13, 3) := by decide +kernel
theorem dX4_copyFrom_13 : decode cX4_copyFrom 13 = .ok (.putfield 13, 3) := by decide +kernel
theorem dX4_copyFrom_16 : decode cX4_copyFrom 16 = .ok (.return_, 1) := by decide +kernel
theorem dX4_lightest_0 : decode cX4_lightest 0 = .ok (.aload_n 0, 1) := by decide +kernel
theorem dX4_lightest_1 : decode cX4_lightest 1 = .ok (.getfield 7, 3) := by decide +kernel
theorem dX4_lightest_4 : decode cX4_lightest 4 = .ok (.aload_n 0, 1) := by decide +kernel
theorem dX4_lightest_5 : decode cX4_lightest 5 = .ok (.getfield 13, 3) := by decide +kernel
theorem dX4_lightest_8 : decode cX4_lightest 8 = .ok (.isub, 1) := by decide +kernel
theorem dX4_lightest_9 : decode cX4_lightest 9 = .ok (.ireturn, 1) := by decide +kernel
theorem dX4_heaviest_0 : decode cX4_heaviest 0 = .ok (.aload_n 0, 1) := by decide +kernel
theorem dX4_heaviest_1 : decode cX4_heaviest 1 = .ok (.getfield 7, 3) := by decide +kernel
theorem dX4_heaviest_4 : decode cX4_heaviest 4 = .ok (.aload_n 0, 1) := by decide +kernel
theorem dX4_heaviest_5 : decode cX4_heaviest 5 = .ok (.getfield 13, 3) := by decide +kernel
theorem dX4_heaviest_8 : decode cX4_heaviest 8 = .ok (.iadd, 1) := by decide +kernel
theorem dX4_heaviest_9 : decode cX4_heaviest 9 = .ok (.ireturn, 1) := by decide +kernel
theorem dX5_init_0 : decode cX5_init 0 = .ok (.aload_n 0, 1) := by decide +kernel
theorem dX5_init_1 : decode cX5_init 1 = .ok (.invokespecial 3, 3) := by decide +kernel
theorem dX5_init_4 : decode cX5_init 4 = .ok (.return_, 1) := by decide +kernel
theorem dX5_copyFrom_0 : decode cX5_copyFrom 0 = .ok (.aload_n 0, 1) := by decide +kernel
theorem dX5_copyFrom_1 : decode cX5_copyFrom 1 = .ok (.aload_n 1, 1) := by decide +kernel
theorem dX5_copyFrom_2 : decode cX5_copyFrom 2 = .ok (.getfield 9, 3) := by decide +kernel
theorem dX5_copyFrom_5 : decode cX5_copyFrom 5 = .ok (.putfield 9, 3) := by decide +kernel
theorem dX5_copyFrom_8 : decode cX5_copyFrom 8 = .ok (.aload_n 0, 1) := by decide +kernel
theorem dX5_copyFrom_9 : decode cX5_copyFrom 9 = .ok (.aload_n 1, 1) := by decide +kernel
theorem dX5_copyFrom_10 : decode cX5_copyFrom 10 = .ok (.getfield 15, 3) := by decide +kernel
theorem dX5_copyFrom_13 : decode cX5_copyFrom 13 = .ok (.putfield 15, 3) := by decide +kernel
theorem dX5_copyFrom_16 : decode cX5_copyFrom 16 = .ok (.aload_n 0, 1) := by decide +kernel
theorem dX5_copyFrom_17 : decode cX5_copyFrom 17 = .ok (.aload_n 1, 1) := by decide +kernel
theorem dX5_copyFrom_18 : decode cX5_copyFrom 18 = .ok (.getfield 18, 3) := by decide +kernel
theorem dX5_copyFrom_21 : decode cX5_copyFrom 21 = .ok (.putfield 18, 3) := by decide +kernel
theorem dX5_copyFrom_24 : decode cX5_copyFrom 24 = .ok (.aload_n 0, 1) := by decide +kernel
theorem dX5_copyFrom_25 : decode cX5_copyFrom 25 = .ok (.aload_n 1, 1) := by decide +kernel
theorem dX5_copyFrom_26 : decode cX5_copyFrom 26 = .ok (.getfield 21, 3) := by decide +kernel
theorem dX5_copyFrom_29 : decode cX5_copyFrom 29 = .ok (.putfield 21, 3) := by decide +kernel
theorem dX5_copyFrom_32 : decode cX5_copyFrom 32 = .ok (.aload_n 0, 1) := by decide +kernel
theorem dX5_copyFrom_33 : decode cX5_copyFrom 33 = .ok (.aload_n 1, 1) := by decide +kernel
theorem dX5_copyFrom_34 : decode cX5_copyFrom 34 = .ok (.getfield 24, 3) := by decide +kernel
theorem dX5_copyFrom_37 : decode cX5_copyFrom 37 = .ok (.putfield 24, 3) := by decide +kernel
theorem dX5_copyFrom_40 : decode cX5_copyFrom 40 = .ok (.aload_n 0, 1) := by decide +kernel
theorem dX5_copyFrom_41 : decode cX5_copyFrom 41 = .ok (.aload_n 1, 1) := by decide +kernel
theorem dX5_copyFrom_42 : decode cX5_copyFrom 42 = .ok (.getfield 27, 3) := by decide +kernel
theorem dX5_copyFrom_45 : decode cX5_copyFrom 45 = .ok (.putfield 27, 3) := by decide +kernel
theorem dX5_copyFrom_48 : decode cX5_copyFrom 48 = .ok (.aload_n 0, 1) := by decide +kernel
theorem dX5_copyFrom_49 : decode cX5_copyFrom 49 = .ok (.aload_n 1, 1) := by decide +kernel
theorem dX5_copyFrom_50 : decode cX5_copyFrom 50 = .ok (.getfield 30, 3) := by decide +kernel
theorem dX5_copyFrom_53 : decode cX5_copyFrom 53 = .ok (.putfield 30, 3) := by decide +kernel
theorem dX5_copyFrom_56 : decode cX5_copyFrom 56 = .ok (.return_, 1) := by decide +kernel
theorem dX5_begin_0 : decode cX5_begin 0 = .ok (.aload_n 0, 1) := by decide +kernel
theorem dX5_begin_1 : decode cX5_begin 1 = .ok (.iload_n 1, 1) := by decide +kernel
theorem dX5_begin_2 : decode cX5_begin 2 = .ok (.putfield 9, 3) := by decide +kernel
theorem dX5_begin_5 : decode cX5_begin 5 = .ok (.aload_n 0, 1) := by decide +kernel
theorem dX5_begin_6 : decode cX5_begin 6 = .ok (.iload_n 2, 1) := by decide +kernel
theorem dX5_begin_7 : decode cX5_begin 7 = .ok (.putfield 15, 3) := by decide +kernel
theorem dX5_begin_10 : decode cX5_begin 10 = .ok (.aload_n 0, 1) := by decide +kernel
theorem dX5_begin_11 : decode cX5_begin 11 = .ok (.iload_n 3, 1) := by decide +kernel
theorem dX5_begin_12 : decode cX5_begin 12 = .ok (.putfield 18, 3) := by decide +kernel
theorem dX5_begin_15 : decode cX5_begin 15 = .ok (.aload_n 0, 1) := by decide +kernel
theorem dX5_begin_16 : decode cX5_begin 16 = .ok (.iload 4, 2) := by decide +kernel
theorem dX5_begin_18 : decode cX5_begin 18 = .ok (.putfield 21, 3) := by decide +kernel
theorem dX5_begin_21 : decode cX5_begin 21 = .ok (.aload_n 0, 1) := by decide +kernel
theorem dX5_begin_22 : decode cX5_begin 22 = .ok (.iload 5, 2) := by decide +kernel
theorem dX5_begin_24 : decode cX5_begin 24 = .ok (.putfield 24, 3) := by decide +kernel
theorem dX5_begin_27 : decode cX5_begin 27 = .ok (.aload_n 0, 1) := by decide +kernel
theorem dX5_begin_28 : decode cX5_begin 28 = .ok (.iconst 0, 1) := by decide +kernel
theorem dX5_begin_29 : decode cX5_begin 29 = .ok (.putfield 27, 3) := by decide +kernel
theorem dX5_begin_32 : decode cX5_begin 32 = .ok (.aload_n 0, 1) := by decide +kernel
theorem dX5_begin_33 : decode cX5_begin 33 = .ok (.iconst 0, 1) := by decide +kernel
theorem dX5_begin_34 : decode cX5_begin 34 = .ok (.putfield 30, 3) := by decide +kernel
theorem dX5_begin_37 : decode cX5_begin 37 = .ok (.return_, 1) := by decide +kernel
set_option maxRecDepth 20000 in
theorem ggX5_sell_X9_quotient : GoodIn wsX5_sell wsX9_quotient := goodIn_r _ [13, 14, 15, 16, 17] (by decide +kernel) (by decide +kernel)
set_option maxRecDepth 20000 in
theorem gX5_sell_X9_quotient_n33 : GoodIn wsX5_sell (wsX9_quotient) := ggX5_sell_X9_quotient
theorem dX5_sell_0 : decode cX5_sell 0 = .ok (.aload_n 0, 1) := by decide +kernel
theorem dX5_sell_1 : decode cX5_sell 1 = .ok (.dup, 1) := by decide +kernel
theorem dX5_sell_2 : decode cX5_sell 2 = .ok (.getfield 18, 3) := by decide +kernel
theorem dX5_sell_5 : decode cX5_sell 5 = .ok (.iload_n 1, 1) := by decide +kernel
theorem dX5_sell_6 : decode cX5_sell 6 = .ok (.isub, 1) := by decide +kernel
theorem dX5_sell_7 : decode cX5_sell 7 = .ok (.putfield 18, 3) := by decide +kernel
theorem dX5_sell_10 : decode cX5_sell 10 = .ok (.aload_n 0, 1) := by decide +kernel
theorem dX5_sell_11 : decode cX5_sell 11 = .ok (.dup, 1) := by decide +kernel
theorem dX5_sell_12 : decode cX5_sell 12 = .ok (.getfield 27, 3) := by decide +kernel
theorem dX5_sell_15 : decode cX5_sell 15 = .ok (.iload_n 1, 1) := by decide +kernel
theorem dX5_sell_16 : decode cX5_sell 16 = .ok (.aload_n 0, 1) := by decide +kernel
theorem dX5_sell_17 : decode cX5_sell 17 = .ok (.getfield 15, 3) := by decide +kernel
theorem dX5_sell_20 : decode cX5_sell 20 = .ok (.imul, 1) := by decide +kernel
theorem dX5_sell_21 : decode cX5_sell 21 = .ok (.iadd, 1) := by decide +kernel
theorem dX5_sell_22 : decode cX5_sell 22 = .ok (.putfield 27, 3) := by decide +kernel
theorem dX5_sell_25 : decode cX5_sell 25 = .ok (.aload_n 0, 1) := by decide +kernel
theorem dX5_sell_26 : decode cX5_sell 26 = .ok (.getfield 27, 3) := by decide +kernel
theorem dX5_sell_29 : decode cX5_sell 29 = .ok (.aload_n 0, 1) := by decide +kernel
theorem dX5_sell_30 : decode cX5_sell 30 = .ok (.getfield 21, 3) := by decide +kernel
theorem dX5_sell_33 : decode cX5_sell 33 = .ok (.invokestatic 33, 3) := by decide +kernel
theorem dX5_sell_36 : decode cX5_sell 36 = .ok (.istore_n 2, 1) := by decide +kernel
theorem dX5_sell_37 : decode cX5_sell 37 = .ok (.aload_n 0, 1) := by decide +kernel
theorem dX5_sell_38 : decode cX5_sell 38 = .ok (.dup, 1) := by decide +kernel
theorem dX5_sell_39 : decode cX5_sell 39 = .ok (.getfield 27, 3) := by decide +kernel
theorem dX5_sell_42 : decode cX5_sell 42 = .ok (.iload_n 2, 1) := by decide +kernel
theorem dX5_sell_43 : decode cX5_sell 43 = .ok (.aload_n 0, 1) := by decide +kernel
theorem dX5_sell_44 : decode cX5_sell 44 = .ok (.getfield 21, 3) := by decide +kernel
theorem dX5_sell_47 : decode cX5_sell 47 = .ok (.imul, 1) := by decide +kernel
theorem dX5_sell_48 : decode cX5_sell 48 = .ok (.isub, 1) := by decide +kernel
theorem dX5_sell_49 : decode cX5_sell 49 = .ok (.putfield 27, 3) := by decide +kernel
theorem dX5_sell_52 : decode cX5_sell 52 = .ok (.aload_n 0, 1) := by decide +kernel
theorem dX5_sell_53 : decode cX5_sell 53 = .ok (.dup, 1) := by decide +kernel
theorem dX5_sell_54 : decode cX5_sell 54 = .ok (.getfield 30, 3) := by decide +kernel
theorem dX5_sell_57 : decode cX5_sell 57 = .ok (.iload_n 2, 1) := by decide +kernel
theorem dX5_sell_58 : decode cX5_sell 58 = .ok (.iadd, 1) := by decide +kernel
theorem dX5_sell_59 : decode cX5_sell 59 = .ok (.putfield 30, 3) := by decide +kernel
theorem dX5_sell_62 : decode cX5_sell 62 = .ok (.aload_n 0, 1) := by decide +kernel
theorem dX5_sell_63 : decode cX5_sell 63 = .ok (.bipush 99, 2) := by decide +kernel
theorem dX5_sell_65 : decode cX5_sell 65 = .ok (.aload_n 0, 1) := by decide +kernel
theorem dX5_sell_66 : decode cX5_sell 66 = .ok (.getfield 18, 3) := by decide +kernel
theorem dX5_sell_69 : decode cX5_sell 69 = .ok (.iload_n 2, 1) := by decide +kernel
theorem dX5_sell_70 : decode cX5_sell 70 = .ok (.aload_n 0, 1) := by decide +kernel
theorem dX5_sell_71 : decode cX5_sell 71 = .ok (.getfield 24, 3) := by decide +kernel
theorem dX5_sell_74 : decode cX5_sell 74 = .ok (.aload_n 0, 1) := by decide +kernel
theorem dX5_sell_75 : decode cX5_sell 75 = .ok (.getfield 15, 3) := by decide +kernel
theorem dX5_sell_78 : decode cX5_sell 78 = .ok (.invokestatic 33, 3) := by decide +kernel
theorem dX5_sell_81 : decode cX5_sell 81 = .ok (.imul, 1) := by decide +kernel
theorem dX5_sell_82 : decode cX5_sell 82 = .ok (.iadd, 1) := by decide +kernel
theorem dX5_sell_83 : decode cX5_sell 83 = .ok (.invokestatic 37, 3) := by decide +kernel
theorem dX5_sell_86 : decode cX5_sell 86 = .ok (.putfield 18, 3) := by decide +kernel
theorem dX5_sell_89 : decode cX5_sell 89 = .ok (.return_, 1) := by decide +kernel
set_option maxRecDepth 20000 in
theorem ggX5_sellOut_X5_sell : GoodIn wsX5_sellOut wsX5_sell := goodIn_r _ [7, 1, 8, 9, 10, 11, 12, 13, 14, 15, 16, 17, 18, 19, 20, 21, 22, 23, 24, 25, 26, 27, 28, 29, 30] (by decide +kernel) (by decide +kernel)
set_option maxRecDepth 20000 in
theorem gX5_sellOut_X5_sell : GoodIn wsX5_sellOut (wsV RX5 42 RX5 yX5_sell wsX5_sell) := goodIn_app (goodIn_of _ (by decide +kernel)) ggX5_sellOut_X5_sell
theorem dX5_sellOut_0 : decode cX5_sellOut 0 = .ok (.iconst 0, 1) := by decide +kernel
theorem dX5_sellOut_1 : decode cX5_sellOut 1 = .ok (.istore_n 1, 1) := by decide +kernel
theorem dX5_sellOut_2 : decode cX5_sellOut 2 = .ok (.iload_n 1, 1) := by decide +kernel
theorem dX5_sellOut_3 : decode cX5_sellOut 3 = .ok (.sipush 999, 3) := by decide +kernel
theorem dX5_sellOut_6 : decode cX5_sellOut 6 = .ok (.if_icmp .gt 23, 3) := by decide +kernel
theorem dX5_sellOut_9 : decode cX5_sellOut 9 = .ok (.aload_n 0, 1) := by decide +kernel
theorem dX5_sellOut_10 : decode cX5_sellOut 10 = .ok (.getfield 18, 3) := by decide +kernel
theorem dX5_sellOut_13 : decode cX5_sellOut 13 = .ok (.ifCond .ne 5, 3) := by decide +kernel
theorem dX5_sellOut_16 : decode cX5_sellOut 16 = .ok (.iload_n 1, 1) := by decide +kernel
theorem dX5_sellOut_17 : decode cX5_sellOut 17 = .ok (.ireturn, 1) := by decide +kernel
theorem dX5_sellOut_18 : decode cX5_sellOut 18 = .ok (.aload_n 0, 1) := by decide +kernel
theorem dX5_sellOut_19 : decode cX5_sellOut 19 = .ok (.iconst 1, 1) := by decide +kernel
theorem dX5_sellOut_20 : decode cX5_sellOut 20 = .ok (.invokevirtual 42, 3) := by decide +kernel
theorem dX5_sellOut_23 : decode cX5_sellOut 23 = .ok (.iinc 1 1, 3) := by decide +kernel
theorem dX5_sellOut_26 : decode cX5_sellOut 26 = .ok (.goto (-24), 3) := by decide +kernel
theorem dX5_sellOut_29 : decode cX5_sellOut 29 = .ok (.ldc 46, 2) := by decide +kernel
theorem dX5_sellOut_31 : decode cX5_sellOut 31 = .ok (.ireturn, 1) := by decide +kernel
theorem dX5_part_0 : decode cX5_part 0 = .ok (.iload_n 1, 1) := by decide +kernel
theorem dX5_part_1 : decode cX5_part 1 = .ok (.tableswitch 78 0 6 #[43, 48, 53, 58, 63, 68, 73], 43) := by decide +kernel
theorem dX5_part_44 : decode cX5_part 44 = .ok (.aload_n 0, 1) := by decide +kernel
theorem dX5_part_45 : decode cX5_part 45 = .ok (.getfield 9, 3) := by decide +kernel
theorem dX5_part_48 : decode cX5_part 48 = .ok (.ireturn, 1) := by decide +kernel
theorem dX5_part_49 : decode cX5_part 49 = .ok (.aload_n 0, 1) := by decide +kernel
theorem dX5_part_50 : decode cX5_part 50 = .ok (.getfield 15, 3) := by decide +kernel
theorem dX5_part_53 : decode cX5_part 53 = .ok (.ireturn, 1) := by decide +kernel
theorem dX5_part_54 : decode cX5_part 54 = .ok (.aload_n 0, 1) := by decide +kernel
theorem dX5_part_55 : decode cX5_part 55 = .ok (.getfield 18, 3) := by decide +kernel
theorem dX5_part_58 : decode cX5_part 58 = .ok (.ireturn, 1) := by decide +kernel
theorem dX5_part_59 : decode cX5_part 59 = .ok (.aload_n 0, 1) := by decide +kernel
theorem dX5_part_60 : decode cX5_part 60 = .ok (.getfield 21, 3) := by decide +kernel
theorem dX5_part_63 : decode cX5_part 63 = .ok (.ireturn, 1) := by decide +kernel
theorem dX5_part_64 : decode cX5_part 64 = .ok (.aload_n 0, 1) := by decide +kernel
theorem dX5_part_65 : decode cX5_part 65 = .ok (.getfield 24, 3) := by decide +kernel
theorem dX5_part_68 : decode cX5_part 68 = .ok (.ireturn, 1) := by decide +kernel
theorem dX5_part_69 : decode cX5_part 69 = .ok (.aload_n 0, 1) := by decide +kernel
theorem dX5_part_70 : decode cX5_part 70 = .ok (.getfield 27, 3) := by decide +kernel
theorem dX5_part_73 : decode cX5_part 73 = .ok (.ireturn, 1) := by decide +kernel
theorem dX5_part_74 : decode cX5_part 74 = .ok (.aload_n 0, 1) := by decide +kernel
theorem dX5_part_75 : decode cX5_part 75 = .ok (.getfield 30, 3) := by decide +kernel
theorem dX5_part_78 : decode cX5_part 78 = .ok (.ireturn, 1) := by decide +kernel
theorem dX5_part_79 : decode cX5_part 79 = .ok (.ldc 47, 2) := by decide +kernel
theorem dX5_part_81 : decode cX5_part 81 = .ok (.ireturn, 1) := by decide +kernel
set_option maxRecDepth 20000 in
theorem ggX6_init_X2_init : GoodIn wsX6_init wsX2_init := goodIn_r _ [13, 14, 2, 3] (by decide +kernel) (by decide +kernel)
set_option maxRecDepth 20000 in
theorem gX6_init_X2_init_n21 : GoodIn wsX6_init (wsX2_init) := ggX6_init_X2_init
theorem dX6_init_0 : decode cX6_init 0 = .ok (.aload_n 0, 1) := by decide +kernel
theorem dX6_init_1 : decode cX6_init 1 = .ok (.invokespecial 3, 3) := by decide +kernel
theorem dX6_init_4 : decode cX6_init 4 = .ok (.aload_n 0, 1) := by decide +kernel
theorem dX6_init_5 : decode cX6_init 5 = .ok (.sipush 140, 3) := by decide +kernel
theorem dX6_init_8 : decode cX6_init 8 = .ok (.newarray .char, 2) := by decide +kernel
theorem dX6_init_10 : decode cX6_init 10 = .ok (.putfield 9, 3) := by decide +kernel
theorem dX6_init_13 : decode cX6_init 13 = .ok (.aload_n 0, 1) := by decide +kernel
theorem dX6_init_14 : decode cX6_init 14 = .ok (.iconst 5, 1) := by decide +kernel
theorem dX6_init_15 : decode cX6_init 15 = .ok (.newarray .int, 2) := by decide +kernel
theorem dX6_init_17 : decode cX6_init 17 = .ok (.putfield 15, 3) := by decide +kernel
theorem dX6_init_20 : decode cX6_init 20 = .ok (.aload_n 0, 1) := by decide +kernel
theorem dX6_init_21 : decode cX6_init 21 = .ok (.new 19, 3) := by decide +kernel
theorem dX6_init_24 : decode cX6_init 24 = .ok (.dup, 1) := by decide +kernel
theorem dX6_init_25 : decode cX6_init 25 = .ok (.invokespecial 21, 3) := by decide +kernel
theorem dX6_init_28 : decode cX6_init 28 = .ok (.putfield 22, 3) := by decide +kernel
theorem dX6_init_31 : decode cX6_init 31 = .ok (.return_, 1) := by decide +kernel
theorem dX7_init_0 : decode cX7_init 0 = .ok (.aload_n 0, 1) := by decide +kernel
theorem dX7_init_1 : decode cX7_init 1 = .ok (.invokespecial 3, 3) := by decide +kernel
theorem dX7_init_4 : decode cX7_init 4 = .ok (.aload_n 0, 1) := by decide +kernel
theorem dX7_init_5 : decode cX7_init 5 = .ok (.bipush 100, 2) := by decide +kernel
theorem dX7_init_7 : decode cX7_init 7 = .ok (.putfield 9, 3) := by decide +kernel
theorem dX7_init_10 : decode cX7_init 10 = .ok (.aload_n 0, 1) := by decide +kernel
theorem dX7_init_11 : decode cX7_init 11 = .ok (.bipush 50, 2) := by decide +kernel
theorem dX7_init_13 : decode cX7_init 13 = .ok (.putfield 15, 3) := by decide +kernel
theorem dX7_init_16 : decode cX7_init 16 = .ok (.return_, 1) := by decide +kernel
theorem dX7_copyFrom_0 : decode cX7_copyFrom 0 = .ok (.aload_n 0, 1) := by decide +kernel
theorem dX7_copyFrom_1 : decode cX7_copyFrom 1 = .ok (.aload_n 1, 1) := by decide +kernel
theorem dX7_copyFrom_2 : decode cX7_copyFrom 2 = .ok (.getfield 9, 3) := by decide +kernel
theorem dX7_copyFrom_5 : decode cX7_copyFrom 5 = .ok (.putfield 9, 3) := by decide +kernel
theorem dX7_copyFrom_8 : decode cX7_copyFrom 8 = .ok (.aload_n 0, 1) := by decide +kernel
theorem dX7_copyFrom_9 : decode cX7_copyFrom 9 = .ok (.aload_n 1, 1) := by decide +kernel
theorem dX7_copyFrom_10 : decode cX7_copyFrom 10 = .ok (.getfield 15, 3) := by decide +kernel
theorem dX7_copyFrom_13 : decode cX7_copyFrom 13 = .ok (.putfield 15, 3) := by decide +kernel
theorem dX7_copyFrom_16 : decode cX7_copyFrom 16 = .ok (.aload_n 0, 1) := by decide +kernel
theorem dX7_copyFrom_17 : decode cX7_copyFrom 17 = .ok (.aload_n 1, 1) := by decide +kernel
theorem dX7_copyFrom_18 : decode cX7_copyFrom 18 = .ok (.getfield 18, 3) := by decide +kernel
theorem dX7_copyFrom_21 : decode cX7_copyFrom 21 = .ok (.putfield 18, 3) := by decide +kernel
theorem dX7_copyFrom_24 : decode cX7_copyFrom 24 = .ok (.return_, 1) := by decide +kernel
theorem dX7_shows_0 : decode cX7_shows 0 = .ok (.aload_n 0, 1) := by decide +kernel
theorem dX7_shows_1 : decode cX7_shows 1 = .ok (.getfield 9, 3) := by decide +kernel
theorem dX7_shows_4 : decode cX7_shows 4 = .ok (.iconst 1, 1) := by decide +kernel
theorem dX7_shows_5 : decode cX7_shows 5 = .ok (.if_icmp .lt 16, 3) := by decide +kernel
theorem dX7_shows_8 : decode cX7_shows 8 = .ok (.iload_n 1, 1) := by decide +kernel
theorem dX7_shows_9 : decode cX7_shows 9 = .ok (.aload_n 0, 1) := by decide +kernel
theorem dX7_shows_10 : decode cX7_shows 10 = .ok (.getfield 9, 3) := by decide +kernel
theorem dX7_shows_13 : decode cX7_shows 13 = .ok (.irem, 1) := by decide +kernel
theorem dX7_shows_14 : decode cX7_shows 14 = .ok (.ifCond .ne 7, 3) := by decide +kernel
theorem dX7_shows_17 : decode cX7_shows 17 = .ok (.iconst 1, 1) := by decide +kernel
theorem dX7_shows_18 : decode cX7_shows 18 = .ok (.goto 4, 3) := by decide +kernel
theorem dX7_shows_21 : decode cX7_shows 21 = .ok (.iconst 0, 1) := by decide +kernel
theorem dX7_shows_22 : decode cX7_shows 22 = .ok (.ireturn, 1) := by decide +kernel
theorem dX7_loadFrom_0 : decode cX7_loadFrom 0 = .ok (.iload_n 1, 1) := by decide +kernel
theorem dX7_loadFrom_1 : decode cX7_loadFrom 1 = .ok (.aload_n 0, 1) := by decide +kernel
theorem dX7_loadFrom_2 : decode cX7_loadFrom 2 = .ok (.getfield 9, 3) := by decide +kernel
theorem dX7_loadFrom_5 : decode cX7_loadFrom 5 = .ok (.iconst 2, 1) := by decide +kernel
theorem dX7_loadFrom_6 : decode cX7_loadFrom 6 = .ok (.idiv, 1) := by decide +kernel
theorem dX7_loadFrom_7 : decode cX7_loadFrom 7 = .ok (.isub, 1) := by decide +kernel
theorem dX7_loadFrom_8 : decode cX7_loadFrom 8 = .ok (.ireturn, 1) := by decide +kernel
theorem dX7_loadTo_0 : decode cX7_loadTo 0 = .ok (.iload_n 1, 1) := by decide +kernel
theorem dX7_loadTo_1 : decode cX7_loadTo 1 = .ok (.aload_n 0, 1) := by decide +kernel
theorem dX7_loadTo_2 : decode cX7_loadTo 2 = .ok (.getfield 9, 3) := by decide +kernel
theorem dX7_loadTo_5 : decode cX7_loadTo 5 = .ok (.iconst 1, 1) := by decide +kernel
theorem dX7_loadTo_6 : decode cX7_loadTo 6 = .ok (.isub, 1) := by decide +kernel
theorem dX7_loadTo_7 : decode cX7_loadTo 7 = .ok (.iconst 2, 1) := by decide +kernel
theorem dX7_loadTo_8 : decode cX7_loadTo 8 = .ok (.idiv, 1) := by decide +kernel
theorem dX7_loadTo_9 : decode cX7_loadTo 9 = .ok (.iadd, 1) := by decide +kernel
theorem dX7_loadTo_10 : decode cX7_loadTo 10 = .ok (.ireturn, 1) := by decide +kernel
set_option maxRecDepth 20000 in
theorem ggX7_leastCount_X4_heaviest : GoodIn wsX7_leastCount wsX4_heaviest := goodIn_r _ [10, 11, 12, 29, 30] (by decide +kernel) (by decide +kernel)
set_option maxRecDepth 20000 in
theorem gX7_leastCount_X4_heaviest : GoodIn wsX7_leastCount (wsV RX7 21 RX4 yX4_heaviest wsX4_heaviest) := goodIn_app (goodIn_of _ (by decide +kernel)) ggX7_leastCount_X4_heaviest
set_option maxRecDepth 20000 in
theorem ggX7_leastCount_X7_loadFrom : GoodIn wsX7_leastCount wsX7_loadFrom := goodIn_r _ [17, 18, 26, 27, 28] (by decide +kernel) (by decide +kernel)
set_option maxRecDepth 20000 in
theorem gX7_leastCount_X7_loadFrom : GoodIn wsX7_leastCount (wsV RX7 27 RX7 yX7_loadFrom wsX7_loadFrom) := goodIn_app (goodIn_of _ (by decide +kernel)) ggX7_leastCount_X7_loadFrom
set_option maxRecDepth 20000 in
theorem ggX7_leastCount_X9_quotient : GoodIn wsX7_leastCount wsX9_quotient := goodIn_r _ [21, 22, 23, 24, 25] (by decide +kernel) (by decide +kernel)
set_option maxRecDepth 20000 in
theorem gX7_leastCount_X9_quotient_n31 : GoodIn wsX7_leastCount (wsX9_quotient) := ggX7_leastCount_X9_quotient
theorem dX7_leastCount_0 : decode cX7_leastCount 0 = .ok (.aload_n 2, 1) := by decide +kernel
theorem dX7_leastCount_1 : decode cX7_leastCount 1 = .ok (.invokevirtual 21, 3) := by decide +kernel
theorem dX7_leastCount_4 : decode cX7_leastCount 4 = .ok (.istore_n 3, 1) := by decide +kernel
theorem dX7_leastCount_5 : decode cX7_leastCount 5 = .ok (.aload_n 0, 1) := by decide +kernel
theorem dX7_leastCount_6 : decode cX7_leastCount 6 = .ok (.iload_n 1, 1) := by decide +kernel
theorem dX7_leastCount_7 : decode cX7_leastCount 7 = .ok (.invokevirtual 27, 3) := by decide +kernel
theorem dX7_leastCount_10 : decode cX7_leastCount 10 = .ok (.aload_n 0, 1) := by decide +kernel
theorem dX7_leastCount_11 : decode cX7_leastCount 11 = .ok (.getfield 15, 3) := by decide +kernel
theorem dX7_leastCount_14 : decode cX7_leastCount 14 = .ok (.isub, 1) := by decide +kernel
theorem dX7_leastCount_15 : decode cX7_leastCount 15 = .ok (.istore 4, 2) := by decide +kernel
theorem dX7_leastCount_17 : decode cX7_leastCount 17 = .ok (.iconst 0, 1) := by decide +kernel
theorem dX7_leastCount_18 : decode cX7_leastCount 18 = .ok (.iload 4, 2) := by decide +kernel
theorem dX7_leastCount_20 : decode cX7_leastCount 20 = .ok (.iload_n 3, 1) := by decide +kernel
theorem dX7_leastCount_21 : decode cX7_leastCount 21 = .ok (.iadd, 1) := by decide +kernel
theorem dX7_leastCount_22 : decode cX7_leastCount 22 = .ok (.iconst 1, 1) := by decide +kernel
theorem dX7_leastCount_23 : decode cX7_leastCount 23 = .ok (.isub, 1) := by decide +kernel
theorem dX7_leastCount_24 : decode cX7_leastCount 24 = .ok (.iload_n 3, 1) := by decide +kernel
theorem dX7_leastCount_25 : decode cX7_leastCount 25 = .ok (.invokestatic 31, 3) := by decide +kernel
theorem dX7_leastCount_28 : decode cX7_leastCount 28 = .ok (.invokestatic 35, 3) := by decide +kernel
theorem dX7_leastCount_31 : decode cX7_leastCount 31 = .ok (.ireturn, 1) := by decide +kernel
set_option maxRecDepth 20000 in
theorem ggX7_greatestCount_X7_shows : GoodIn wsX7_greatestCount wsX7_shows := goodIn_r _ [6, 7, 26, 27, 28] (by decide +kernel) (by decide +kernel)
set_option maxRecDepth 20000 in
theorem gX7_greatestCount_X7_shows : GoodIn wsX7_greatestCount (wsV RX7 40 RX7 yX7_shows wsX7_shows) := goodIn_app (goodIn_of _ (by decide +kernel)) ggX7_greatestCount_X7_shows
set_option maxRecDepth 20000 in
theorem ggX7_greatestCount_X7_loadTo : GoodIn wsX7_greatestCount wsX7_loadTo := goodIn_r _ [11, 7, 26, 27, 28] (by decide +kernel) (by decide +kernel)
set_option maxRecDepth 20000 in
theorem gX7_greatestCount_X7_loadTo : GoodIn wsX7_greatestCount (wsV RX7 44 RX7 yX7_loadTo wsX7_loadTo) := goodIn_app (goodIn_of _ (by decide +kernel)) ggX7_greatestCount_X7_loadTo
set_option maxRecDepth 20000 in
theorem ggX7_greatestCount_X4_lightest : GoodIn wsX7_greatestCount wsX4_lightest := goodIn_r _ [16, 17, 18, 29, 30] (by decide +kernel) (by decide +kernel)
set_option maxRecDepth 20000 in
theorem gX7_greatestCount_X4_lightest : GoodIn wsX7_greatestCount (wsV RX7 47 RX4 yX4_lightest wsX4_lightest) := goodIn_app (goodIn_of _ (by decide +kernel)) ggX7_greatestCount_X4_lightest
set_option maxRecDepth 20000 in
theorem ggX7_greatestCount_X9_quotient : GoodIn wsX7_greatestCount wsX9_quotient := goodIn_r _ [21, 22, 23, 24, 25] (by decide +kernel) (by decide +kernel)
set_option maxRecDepth 20000 in
theorem gX7_greatestCount_X9_quotient_n31 : GoodIn wsX7_greatestCount (wsX9_quotient) := ggX7_greatestCount_X9_quotient
theorem dX7_greatestCount_0 : decode cX7_greatestCount 0 = .ok (.aload_n 0, 1) := by decide +kernel
theorem dX7_greatestCount_1 : decode cX7_greatestCount 1 = .ok (.iload_n 1, 1) := by decide +kernel
theorem dX7_greatestCount_2 : decode cX7_greatestCount 2 = .ok (.invokevirtual 40, 3) := by decide +kernel
theorem dX7_greatestCount_5 : decode cX7_greatestCount 5 = .ok (.ifCond .ne 5, 3) := by decide +kernel
theorem dX7_greatestCount_8 : decode cX7_greatestCount 8 = .ok (.iconst (-1), 1) := by decide +kernel
theorem dX7_greatestCount_9 : decode cX7_greatestCount 9 = .ok (.ireturn, 1) := by decide +kernel
theorem dX7_greatestCount_10 : decode cX7_greatestCount 10 = .ok (.aload_n 0, 1) := by decide +kernel
theorem dX7_greatestCount_11 : decode cX7_greatestCount 11 = .ok (.iload_n 1, 1) := by decide +kernel
theorem dX7_greatestCount_12 : decode cX7_greatestCount 12 = .ok (.invokevirtual 44, 3) := by decide +kernel
theorem dX7_greatestCount_15 : decode cX7_greatestCount 15 = .ok (.aload_n 0, 1) := by decide +kernel
theorem dX7_greatestCount_16 : decode cX7_greatestCount 16 = .ok (.getfield 15, 3) := by decide +kernel
theorem dX7_greatestCount_19 : decode cX7_greatestCount 19 = .ok (.iadd, 1) := by decide +kernel
theorem dX7_greatestCount_20 : decode cX7_greatestCount 20 = .ok (.aload_n 2, 1) := by decide +kernel
theorem dX7_greatestCount_21 : decode cX7_greatestCount 21 = .ok (.invokevirtual 47, 3) := by decide +kernel
theorem dX7_greatestCount_24 : decode cX7_greatestCount 24 = .ok (.invokestatic 31, 3) := by decide +kernel
theorem dX7_greatestCount_27 : decode cX7_greatestCount 27 = .ok (.ireturn, 1) := by decide +kernel
set_option maxRecDepth 20000 in
theorem ggX7_guessFrom_X7_leastCount : GoodIn wsX7_guessFrom wsX7_leastCount := goodIn_r _ [14, 15, 7, 8, 5, 9, 16, 17, 18, 19, 20, 21, 22, 23, 24, 25, 13, 26, 27, 28, 29, 30, 31, 32, 33, 34, 57, 58, 59, 55, 56] (by decide +kernel) (by decide +kernel)
set_option maxRecDepth 20000 in
theorem gX7_guessFrom_X7_leastCount : GoodIn wsX7_guessFrom (wsV RX7 50 RX7 yX7_leastCount wsX7_leastCount) := goodIn_app (goodIn_of _ (by decide +kernel)) ggX7_guessFrom_X7_leastCount
set_option maxRecDepth 20000 in
theorem ggX7_guessFrom_X7_greatestCount : GoodIn wsX7_guessFrom wsX7_greatestCount := goodIn_r _ [38, 15, 39, 40, 41, 13, 42, 27, 43, 44, 45, 46, 47, 48, 49, 19, 50, 21, 22, 28, 29, 30, 31, 32, 33, 34, 57, 58, 59, 55, 56] (by decide +kernel) (by decide +kernel)
set_option maxRecDepth 20000 in
theorem gX7_guessFrom_X7_greatestCount : GoodIn wsX7_guessFrom (wsV RX7 54 RX7 yX7_greatestCount wsX7_greatestCount) := goodIn_app (goodIn_of _ (by decide +kernel)) ggX7_guessFrom_X7_greatestCount
set_option maxRecDepth 20000 in
theorem ggX7_guessFrom_X7_nearestCount : GoodIn wsX7_guessFrom wsX7_nearestCount := goodIn_r _ [54, 28, 29, 30, 31, 32, 33, 34] (by decide +kernel) (by decide +kernel)
set_option maxRecDepth 20000 in
theorem gX7_guessFrom_X7_nearestCount : GoodIn wsX7_guessFrom (wsV RX7 61 RX7 yX7_nearestCount wsX7_nearestCount) := goodIn_app (goodIn_of _ (by decide +kernel)) ggX7_guessFrom_X7_nearestCount
theorem dX7_guessFrom_0 : decode cX7_guessFrom 0 = .ok (.aload_n 0, 1) := by decide +kernel
theorem dX7_guessFrom_1 : decode cX7_guessFrom 1 = .ok (.iload_n 1, 1) := by decide +kernel
theorem dX7_guessFrom_2 : decode cX7_guessFrom 2 = .ok (.aload_n 2, 1) := by decide +kernel
theorem dX7_guessFrom_3 : decode cX7_guessFrom 3 = .ok (.invokevirtual 50, 3) := by decide +kernel
theorem dX7_guessFrom_6 : decode cX7_guessFrom 6 = .ok (.istore 4, 2) := by decide +kernel
theorem dX7_guessFrom_8 : decode cX7_guessFrom 8 = .ok (.aload_n 0, 1) := by decide +kernel
theorem dX7_guessFrom_9 : decode cX7_guessFrom 9 = .ok (.iload_n 1, 1) := by decide +kernel
theorem dX7_guessFrom_10 : decode cX7_guessFrom 10 = .ok (.aload_n 2, 1) := by decide +kernel
theorem dX7_guessFrom_11 : decode cX7_guessFrom 11 = .ok (.invokevirtual 54, 3) := by decide +kernel
theorem dX7_guessFrom_14 : decode cX7_guessFrom 14 = .ok (.istore 5, 2) := by decide +kernel
theorem dX7_guessFrom_16 : decode cX7_guessFrom 16 = .ok (.iload 4, 2) := by decide +kernel
theorem dX7_guessFrom_18 : decode cX7_guessFrom 18 = .ok (.iload 5, 2) := by decide +kernel
theorem dX7_guessFrom_20 : decode cX7_guessFrom 20 = .ok (.if_icmp .le 6, 3) := by decide +kernel
theorem dX7_guessFrom_23 : decode cX7_guessFrom 23 = .ok (.ldc 57, 2) := by decide +kernel
theorem dX7_guessFrom_25 : decode cX7_guessFrom 25 = .ok (.ireturn, 1) := by decide +kernel
theorem dX7_guessFrom_26 : decode cX7_guessFrom 26 = .ok (.iload_n 3, 1) := by decide +kernel
theorem dX7_guessFrom_27 : decode cX7_guessFrom 27 = .ok (.tableswitch 39 1 3 #[25, 28, 31], 25) := by decide +kernel
theorem dX7_guessFrom_52 : decode cX7_guessFrom 52 = .ok (.iload 4, 2) := by decide +kernel
theorem dX7_guessFrom_54 : decode cX7_guessFrom 54 = .ok (.ireturn, 1) := by decide +kernel
theorem dX7_guessFrom_55 : decode cX7_guessFrom 55 = .ok (.iload 5, 2) := by decide +kernel
theorem dX7_guessFrom_57 : decode cX7_guessFrom 57 = .ok (.ireturn, 1) := by decide +kernel
theorem dX7_guessFrom_58 : decode cX7_guessFrom 58 = .ok (.iload 4, 2) := by decide +kernel
theorem dX7_guessFrom_60 : decode cX7_guessFrom 60 = .ok (.iload 5, 2) := by decide +kernel
theorem dX7_guessFrom_62 : decode cX7_guessFrom 62 = .ok (.iadd, 1) := by decide +kernel
theorem dX7_guessFrom_63 : decode cX7_guessFrom 63 = .ok (.iconst 2, 1) := by decide +kernel
theorem dX7_guessFrom_64 : decode cX7_guessFrom 64 = .ok (.idiv, 1) := by decide +kernel
theorem dX7_guessFrom_65 : decode cX7_guessFrom 65 = .ok (.ireturn, 1) := by decide +kernel
theorem dX7_guessFrom_66 : decode cX7_guessFrom 66 = .ok (.iload 4, 2) := by decide +kernel
theorem dX7_guessFrom_68 : decode cX7_guessFrom 68 = .ok (.iload 5, 2) := by decide +kernel
theorem dX7_guessFrom_70 : decode cX7_guessFrom 70 = .ok (.aload_n 0, 1) := by decide +kernel
theorem dX7_guessFrom_71 : decode cX7_guessFrom 71 = .ok (.iload_n 1, 1) := by decide +kernel
theorem dX7_guessFrom_72 : decode cX7_guessFrom 72 = .ok (.aload_n 2, 1) := by decide +kernel
theorem dX7_guessFrom_73 : decode cX7_guessFrom 73 = .ok (.getfield 58, 3) := by decide +kernel
theorem dX7_guessFrom_76 : decode cX7_guessFrom 76 = .ok (.invokevirtual 61, 3) := by decide +kernel
theorem dX7_guessFrom_79 : decode cX7_guessFrom 79 = .ok (.invokestatic 64, 3) := by decide +kernel
theorem dX7_guessFrom_82 : decode cX7_guessFrom 82 = .ok (.invokestatic 35, 3) := by decide +kernel
theorem dX7_guessFrom_85 : decode cX7_guessFrom 85 = .ok (.ireturn, 1) := by decide +kernel
set_option maxRecDepth 20000 in
theorem ggX7_nearestCount_X9_quotient : GoodIn wsX7_nearestCount wsX9_quotient := goodIn_r _ [3, 4, 5, 6, 7] (by decide +kernel) (by decide +kernel)
set_option maxRecDepth 20000 in
theorem gX7_nearestCount_X9_quotient_n31 : GoodIn wsX7_nearestCount (wsX9_quotient) := ggX7_nearestCount_X9_quotient
theorem dX7_nearestCount_0 : decode cX7_nearestCount 0 = .ok (.iload_n 1, 1) := by decide +kernel
theorem dX7_nearestCount_1 : decode cX7_nearestCount 1 = .ok (.iload_n 2, 1) := by decide +kernel
theorem dX7_nearestCount_2 : decode cX7_nearestCount 2 = .ok (.invokestatic 31, 3) := by decide +kernel
theorem dX7_nearestCount_5 : decode cX7_nearestCount 5 = .ok (.istore_n 3, 1) := by decide +kernel
theorem dX7_nearestCount_6 : decode cX7_nearestCount 6 = .ok (.iload_n 1, 1) := by decide +kernel
theorem dX7_nearestCount_7 : decode cX7_nearestCount 7 = .ok (.iload_n 3, 1) := by decide +kernel
theorem dX7_nearestCount_8 : decode cX7_nearestCount 8 = .ok (.iload_n 2, 1) := by decide +kernel
theorem dX7_nearestCount_9 : decode cX7_nearestCount 9 = .ok (.imul, 1) := by decide +kernel
theorem dX7_nearestCount_10 : decode cX7_nearestCount 10 = .ok (.isub, 1) := by decide +kernel
theorem dX7_nearestCount_11 : decode cX7_nearestCount 11 = .ok (.istore 4, 2) := by decide +kernel
theorem dX7_nearestCount_13 : decode cX7_nearestCount 13 = .ok (.iload 4, 2) := by decide +kernel
theorem dX7_nearestCount_15 : decode cX7_nearestCount 15 = .ok (.iload_n 2, 1) := by decide +kernel
theorem dX7_nearestCount_16 : decode cX7_nearestCount 16 = .ok (.iload 4, 2) := by decide +kernel
theorem dX7_nearestCount_18 : decode cX7_nearestCount 18 = .ok (.isub, 1) := by decide +kernel
theorem dX7_nearestCount_19 : decode cX7_nearestCount 19 = .ok (.if_icmp .gt 7, 3) := by decide +kernel
theorem dX7_nearestCount_22 : decode cX7_nearestCount 22 = .ok (.iload_n 3, 1) := by decide +kernel
theorem dX7_nearestCount_23 : decode cX7_nearestCount 23 = .ok (.goto 6, 3) := by decide +kernel
theorem dX7_nearestCount_26 : decode cX7_nearestCount 26 = .ok (.iload_n 3, 1) := by decide +kernel
theorem dX7_nearestCount_27 : decode cX7_nearestCount 27 = .ok (.iconst 1, 1) := by decide +kernel
theorem dX7_nearestCount_28 : decode cX7_nearestCount 28 = .ok (.iadd, 1) := by decide +kernel
theorem dX7_nearestCount_29 : decode cX7_nearestCount 29 = .ok (.ireturn, 1) := by decide +kernel
set_option maxRecDepth 20000 in
theorem ggX7_apartFromNext_X4_heaviest : GoodIn wsX7_apartFromNext wsX4_heaviest := goodIn_r _ [6, 7, 8, 30, 31] (by decide +kernel) (by decide +kernel)
set_option maxRecDepth 20000 in
theorem gX7_apartFromNext_X4_heaviest : GoodIn wsX7_apartFromNext (wsV RX7 21 RX4 yX4_heaviest wsX4_heaviest) := goodIn_app (goodIn_of _ (by decide +kernel)) ggX7_apartFromNext_X4_heaviest
set_option maxRecDepth 20000 in
theorem ggX7_apartFromNext_X9_readingAt : GoodIn wsX7_apartFromNext wsX9_readingAt := goodIn_r _ [11, 12, 13, 14, 15, 16, 17, 10, 18, 19, 20, 21, 22] (by decide +kernel) (by decide +kernel)
set_option maxRecDepth 20000 in
theorem gX7_apartFromNext_X9_readingAt_n67 : GoodIn wsX7_apartFromNext (wsX9_readingAt) := ggX7_apartFromNext_X9_readingAt
set_option maxRecDepth 20000 in
theorem ggX7_apartFromNext_X4_lightest : GoodIn wsX7_apartFromNext wsX4_lightest := goodIn_r _ [26, 7, 8, 30, 31] (by decide +kernel) (by decide +kernel)
set_option maxRecDepth 20000 in
theorem gX7_apartFromNext_X4_lightest : GoodIn wsX7_apartFromNext (wsV RX7 47 RX4 yX4_lightest wsX4_lightest) := goodIn_app (goodIn_of _ (by decide +kernel)) ggX7_apartFromNext_X4_lightest
theorem dX7_apartFromNext_0 : decode cX7_apartFromNext 0 = .ok (.iload_n 1, 1) := by decide +kernel
theorem dX7_apartFromNext_1 : decode cX7_apartFromNext 1 = .ok (.iload_n 3, 1) := by decide +kernel
theorem dX7_apartFromNext_2 : decode cX7_apartFromNext 2 = .ok (.aload_n 2, 1) := by decide +kernel
theorem dX7_apartFromNext_3 : decode cX7_apartFromNext 3 = .ok (.invokevirtual 21, 3) := by decide +kernel
theorem dX7_apartFromNext_6 : decode cX7_apartFromNext 6 = .ok (.imul, 1) := by decide +kernel
theorem dX7_apartFromNext_7 : decode cX7_apartFromNext 7 = .ok (.aload_n 0, 1) := by decide +kernel
theorem dX7_apartFromNext_8 : decode cX7_apartFromNext 8 = .ok (.getfield 15, 3) := by decide +kernel
theorem dX7_apartFromNext_11 : decode cX7_apartFromNext 11 = .ok (.iadd, 1) := by decide +kernel
theorem dX7_apartFromNext_12 : decode cX7_apartFromNext 12 = .ok (.invokestatic 67, 3) := by decide +kernel
theorem dX7_apartFromNext_15 : decode cX7_apartFromNext 15 = .ok (.istore 4, 2) := by decide +kernel
theorem dX7_apartFromNext_17 : decode cX7_apartFromNext 17 = .ok (.iload_n 1, 1) := by decide +kernel
theorem dX7_apartFromNext_18 : decode cX7_apartFromNext 18 = .ok (.iload_n 3, 1) := by decide +kernel
theorem dX7_apartFromNext_19 : decode cX7_apartFromNext 19 = .ok (.iconst 1, 1) := by decide +kernel
theorem dX7_apartFromNext_20 : decode cX7_apartFromNext 20 = .ok (.iadd, 1) := by decide +kernel
theorem dX7_apartFromNext_21 : decode cX7_apartFromNext 21 = .ok (.aload_n 2, 1) := by decide +kernel
theorem dX7_apartFromNext_22 : decode cX7_apartFromNext 22 = .ok (.invokevirtual 47, 3) := by decide +kernel
theorem dX7_apartFromNext_25 : decode cX7_apartFromNext 25 = .ok (.imul, 1) := by decide +kernel
theorem dX7_apartFromNext_26 : decode cX7_apartFromNext 26 = .ok (.aload_n 0, 1) := by decide +kernel
theorem dX7_apartFromNext_27 : decode cX7_apartFromNext 27 = .ok (.getfield 15, 3) := by decide +kernel
theorem dX7_apartFromNext_30 : decode cX7_apartFromNext 30 = .ok (.isub, 1) := by decide +kernel
theorem dX7_apartFromNext_31 : decode cX7_apartFromNext 31 = .ok (.invokestatic 67, 3) := by decide +kernel
theorem dX7_apartFromNext_34 : decode cX7_apartFromNext 34 = .ok (.istore 5, 2) := by decide +kernel
theorem dX7_apartFromNext_36 : decode cX7_apartFromNext 36 = .ok (.iload 4, 2) := by decide +kernel
theorem dX7_apartFromNext_38 : decode cX7_apartFromNext 38 = .ok (.iload 5, 2) := by decide +kernel
theorem dX7_apartFromNext_40 : decode cX7_apartFromNext 40 = .ok (.if_icmp .ge 7, 3) := by decide +kernel
theorem dX7_apartFromNext_43 : decode cX7_apartFromNext 43 = .ok (.iconst 1, 1) := by decide +kernel
theorem dX7_apartFromNext_44 : decode cX7_apartFromNext 44 = .ok (.goto 4, 3) := by decide +kernel
theorem dX7_apartFromNext_47 : decode cX7_apartFromNext 47 = .ok (.iconst 0, 1) := by decide +kernel
theorem dX7_apartFromNext_48 : decode cX7_apartFromNext 48 = .ok (.ireturn, 1) := by decide +kernel
set_option maxRecDepth 20000 in
theorem ggX7_lastApart_X7_apartFromNext : GoodIn wsX7_lastApart wsX7_apartFromNext := goodIn_r _ [6, 7, 8, 9, 10, 11, 12, 13, 14, 15, 16, 17, 18, 19, 20, 21, 22, 23, 24, 25, 26, 27, 28, 29, 30, 31, 32, 33, 34, 35, 36, 37] (by decide +kernel) (by decide +kernel)
set_option maxRecDepth 20000 in
theorem gX7_lastApart_X7_apartFromNext : GoodIn wsX7_lastApart (wsV RX7 70 RX7 yX7_apartFromNext wsX7_apartFromNext) := goodIn_app (goodIn_of _ (by decide +kernel)) ggX7_lastApart_X7_apartFromNext
theorem dX7_lastApart_0 : decode cX7_lastApart 0 = .ok (.iconst 0, 1) := by decide +kernel
theorem dX7_lastApart_1 : decode cX7_lastApart 1 = .ok (.istore_n 2, 1) := by decide +kernel
theorem dX7_lastApart_2 : decode cX7_lastApart 2 = .ok (.iload_n 2, 1) := by decide +kernel
theorem dX7_lastApart_3 : decode cX7_lastApart 3 = .ok (.sipush 999, 3) := by decide +kernel
theorem dX7_lastApart_6 : decode cX7_lastApart 6 = .ok (.if_icmp .ge 24, 3) := by decide +kernel
theorem dX7_lastApart_9 : decode cX7_lastApart 9 = .ok (.aload_n 0, 1) := by decide +kernel
theorem dX7_lastApart_10 : decode cX7_lastApart 10 = .ok (.aload_n 0, 1) := by decide +kernel
theorem dX7_lastApart_11 : decode cX7_lastApart 11 = .ok (.getfield 9, 3) := by decide +kernel
theorem dX7_lastApart_14 : decode cX7_lastApart 14 = .ok (.aload_n 1, 1) := by decide +kernel
theorem dX7_lastApart_15 : decode cX7_lastApart 15 = .ok (.iload_n 2, 1) := by decide +kernel
theorem dX7_lastApart_16 : decode cX7_lastApart 16 = .ok (.invokevirtual 70, 3) := by decide +kernel
theorem dX7_lastApart_19 : decode cX7_lastApart 19 = .ok (.ifCond .ne 5, 3) := by decide +kernel
theorem dX7_lastApart_22 : decode cX7_lastApart 22 = .ok (.iload_n 2, 1) := by decide +kernel
theorem dX7_lastApart_23 : decode cX7_lastApart 23 = .ok (.ireturn, 1) := by decide +kernel
theorem dX7_lastApart_24 : decode cX7_lastApart 24 = .ok (.iinc 2 1, 3) := by decide +kernel
theorem dX7_lastApart_27 : decode cX7_lastApart 27 = .ok (.goto (-25), 3) := by decide +kernel
theorem dX7_lastApart_30 : decode cX7_lastApart 30 = .ok (.sipush 999, 3) := by decide +kernel
theorem dX7_lastApart_33 : decode cX7_lastApart 33 = .ok (.ireturn, 1) := by decide +kernel
set_option maxRecDepth 20000 in
theorem ggX7_greatestStep_X7_allApart : GoodIn wsX7_greatestStep wsX7_allApart := goodIn_r _ [6, 7, 8, 9, 5, 10, 11, 12, 13, 14, 15, 16, 17, 18, 19, 20, 21, 22, 23, 24, 25, 26, 27, 28, 29, 30, 31, 32, 33, 34, 35, 36, 37, 38, 39, 40, 41] (by decide +kernel) (by decide +kernel)
set_option maxRecDepth 20000 in
theorem gX7_greatestStep_X7_allApart : GoodIn wsX7_greatestStep (wsV RX7 74 RX7 yX7_allApart wsX7_allApart) := goodIn_app (goodIn_of _ (by decide +kernel)) ggX7_greatestStep_X7_allApart
theorem dX7_greatestStep_0 : decode cX7_greatestStep 0 = .ok (.sipush 1000, 3) := by decide +kernel
theorem dX7_greatestStep_3 : decode cX7_greatestStep 3 = .ok (.istore_n 3, 1) := by decide +kernel
theorem dX7_greatestStep_4 : decode cX7_greatestStep 4 = .ok (.iload_n 3, 1) := by decide +kernel
theorem dX7_greatestStep_5 : decode cX7_greatestStep 5 = .ok (.iconst 1, 1) := by decide +kernel
theorem dX7_greatestStep_6 : decode cX7_greatestStep 6 = .ok (.if_icmp .lt 21, 3) := by decide +kernel
theorem dX7_greatestStep_9 : decode cX7_greatestStep 9 = .ok (.aload_n 0, 1) := by decide +kernel
theorem dX7_greatestStep_10 : decode cX7_greatestStep 10 = .ok (.iload_n 3, 1) := by decide +kernel
theorem dX7_greatestStep_11 : decode cX7_greatestStep 11 = .ok (.aload_n 1, 1) := by decide +kernel
theorem dX7_greatestStep_12 : decode cX7_greatestStep 12 = .ok (.iload_n 2, 1) := by decide +kernel
theorem dX7_greatestStep_13 : decode cX7_greatestStep 13 = .ok (.invokevirtual 74, 3) := by decide +kernel
theorem dX7_greatestStep_16 : decode cX7_greatestStep 16 = .ok (.ifCond .eq 5, 3) := by decide +kernel
theorem dX7_greatestStep_19 : decode cX7_greatestStep 19 = .ok (.iload_n 3, 1) := by decide +kernel
theorem dX7_greatestStep_20 : decode cX7_greatestStep 20 = .ok (.ireturn, 1) := by decide +kernel
theorem dX7_greatestStep_21 : decode cX7_greatestStep 21 = .ok (.iinc 3 (-1), 3) := by decide +kernel
theorem dX7_greatestStep_24 : decode cX7_greatestStep 24 = .ok (.goto (-20), 3) := by decide +kernel
theorem dX7_greatestStep_27 : decode cX7_greatestStep 27 = .ok (.ldc 57, 2) := by decide +kernel
theorem dX7_greatestStep_29 : decode cX7_greatestStep 29 = .ok (.ireturn, 1) := by decide +kernel
set_option maxRecDepth 20000 in
theorem ggX7_allApart_X7_apartFromNext : GoodIn wsX7_allApart wsX7_apartFromNext := goodIn_r _ [5, 6, 7, 8, 9, 10, 11, 12, 13, 14, 15, 16, 17, 18, 19, 20, 21, 22, 23, 24, 25, 26, 27, 28, 29, 30, 31, 32, 33, 34, 35, 36] (by decide +kernel) (by decide +kernel)
set_option maxRecDepth 20000 in
theorem gX7_allApart_X7_apartFromNext : GoodIn wsX7_allApart (wsV RX7 70 RX7 yX7_apartFromNext wsX7_apartFromNext) := goodIn_app (goodIn_of _ (by decide +kernel)) ggX7_allApart_X7_apartFromNext
theorem dX7_allApart_0 : decode cX7_allApart 0 = .ok (.iload_n 3, 1) := by decide +kernel
theorem dX7_allApart_1 : decode cX7_allApart 1 = .ok (.iconst 1, 1) := by decide +kernel
theorem dX7_allApart_2 : decode cX7_allApart 2 = .ok (.isub, 1) := by decide +kernel
theorem dX7_allApart_3 : decode cX7_allApart 3 = .ok (.istore 4, 2) := by decide +kernel
theorem dX7_allApart_5 : decode cX7_allApart 5 = .ok (.iload 4, 2) := by decide +kernel
theorem dX7_allApart_7 : decode cX7_allApart 7 = .ok (.ifCond .lt 22, 3) := by decide +kernel
theorem dX7_allApart_10 : decode cX7_allApart 10 = .ok (.aload_n 0, 1) := by decide +kernel
theorem dX7_allApart_11 : decode cX7_allApart 11 = .ok (.iload_n 1, 1) := by decide +kernel
theorem dX7_allApart_12 : decode cX7_allApart 12 = .ok (.aload_n 2, 1) := by decide +kernel
theorem dX7_allApart_13 : decode cX7_allApart 13 = .ok (.iload 4, 2) := by decide +kernel
theorem dX7_allApart_15 : decode cX7_allApart 15 = .ok (.invokevirtual 70, 3) := by decide +kernel
theorem dX7_allApart_18 : decode cX7_allApart 18 = .ok (.ifCond .ne 5, 3) := by decide +kernel
theorem dX7_allApart_21 : decode cX7_allApart 21 = .ok (.iconst 0, 1) := by decide +kernel
theorem dX7_allApart_22 : decode cX7_allApart 22 = .ok (.ireturn, 1) := by decide +kernel
theorem dX7_allApart_23 : decode cX7_allApart 23 = .ok (.iinc 4 (-1), 3) := by decide +kernel
theorem dX7_allApart_26 : decode cX7_allApart 26 = .ok (.goto (-21), 3) := by decide +kernel
theorem dX7_allApart_29 : decode cX7_allApart 29 = .ok (.iconst 1, 1) := by decide +kernel
theorem dX7_allApart_30 : decode cX7_allApart 30 = .ok (.ireturn, 1) := by decide +kernel
set_option maxRecDepth 20000 in
theorem ggX7_mixedPairs_X7_pairsOf : GoodIn wsX7_mixedPairs wsX7_pairsOf := goodIn_r _ [6, 7, 8, 9, 10, 5, 11, 12, 13, 14, 15, 16, 17, 18, 19, 20, 21, 22, 23, 24, 25, 26, 27, 28, 29, 30, 31, 32, 33, 34, 35, 36] (by decide +kernel) (by decide +kernel)
set_option maxRecDepth 20000 in
theorem gX7_mixedPairs_X7_pairsOf : GoodIn wsX7_mixedPairs (wsV RX7 77 RX7 yX7_pairsOf wsX7_pairsOf) := goodIn_app (goodIn_of _ (by decide +kernel)) ggX7_mixedPairs_X7_pairsOf
theorem dX7_mixedPairs_0 : decode cX7_mixedPairs 0 = .ok (.iconst 0, 1) := by decide +kernel
theorem dX7_mixedPairs_1 : decode cX7_mixedPairs 1 = .ok (.istore 5, 2) := by decide +kernel
theorem dX7_mixedPairs_3 : decode cX7_mixedPairs 3 = .ok (.ldc 57, 2) := by decide +kernel
theorem dX7_mixedPairs_5 : decode cX7_mixedPairs 5 = .ok (.istore 6, 2) := by decide +kernel
theorem dX7_mixedPairs_7 : decode cX7_mixedPairs 7 = .ok (.ldc 57, 2) := by decide +kernel
theorem dX7_mixedPairs_9 : decode cX7_mixedPairs 9 = .ok (.istore 7, 2) := by decide +kernel
theorem dX7_mixedPairs_11 : decode cX7_mixedPairs 11 = .ok (.iconst 0, 1) := by decide +kernel
theorem dX7_mixedPairs_12 : decode cX7_mixedPairs 12 = .ok (.istore 8, 2) := by decide +kernel
theorem dX7_mixedPairs_14 : decode cX7_mixedPairs 14 = .ok (.iload 8, 2) := by decide +kernel
theorem dX7_mixedPairs_16 : decode cX7_mixedPairs 16 = .ok (.bipush 60, 2) := by decide +kernel
theorem dX7_mixedPairs_18 : decode cX7_mixedPairs 18 = .ok (.if_icmp .gt 47, 3) := by decide +kernel
theorem dX7_mixedPairs_21 : decode cX7_mixedPairs 21 = .ok (.aload_n 0, 1) := by decide +kernel
theorem dX7_mixedPairs_22 : decode cX7_mixedPairs 22 = .ok (.iload 8, 2) := by decide +kernel
theorem dX7_mixedPairs_24 : decode cX7_mixedPairs 24 = .ok (.aload_n 1, 1) := by decide +kernel
theorem dX7_mixedPairs_25 : decode cX7_mixedPairs 25 = .ok (.aload_n 2, 1) := by decide +kernel
theorem dX7_mixedPairs_26 : decode cX7_mixedPairs 26 = .ok (.iload_n 3, 1) := by decide +kernel
theorem dX7_mixedPairs_27 : decode cX7_mixedPairs 27 = .ok (.invokevirtual 77, 3) := by decide +kernel
theorem dX7_mixedPairs_30 : decode cX7_mixedPairs 30 = .ok (.istore 9, 2) := by decide +kernel
theorem dX7_mixedPairs_32 : decode cX7_mixedPairs 32 = .ok (.iload 9, 2) := by decide +kernel
theorem dX7_mixedPairs_34 : decode cX7_mixedPairs 34 = .ok (.ifCond .le 25, 3) := by decide +kernel
theorem dX7_mixedPairs_37 : decode cX7_mixedPairs 37 = .ok (.iload 5, 2) := by decide +kernel
theorem dX7_mixedPairs_39 : decode cX7_mixedPairs 39 = .ok (.iload 9, 2) := by decide +kernel
theorem dX7_mixedPairs_41 : decode cX7_mixedPairs 41 = .ok (.iadd, 1) := by decide +kernel
theorem dX7_mixedPairs_42 : decode cX7_mixedPairs 42 = .ok (.istore 5, 2) := by decide +kernel
theorem dX7_mixedPairs_44 : decode cX7_mixedPairs 44 = .ok (.iload 8, 2) := by decide +kernel
theorem dX7_mixedPairs_46 : decode cX7_mixedPairs 46 = .ok (.istore 7, 2) := by decide +kernel
theorem dX7_mixedPairs_48 : decode cX7_mixedPairs 48 = .ok (.iload 6, 2) := by decide +kernel
theorem dX7_mixedPairs_50 : decode cX7_mixedPairs 50 = .ok (.ldc 57, 2) := by decide +kernel
theorem dX7_mixedPairs_52 : decode cX7_mixedPairs 52 = .ok (.if_icmp .ne 7, 3) := by decide +kernel
theorem dX7_mixedPairs_55 : decode cX7_mixedPairs 55 = .ok (.iload 8, 2) := by decide +kernel
theorem dX7_mixedPairs_57 : decode cX7_mixedPairs 57 = .ok (.istore 6, 2) := by decide +kernel
theorem dX7_mixedPairs_59 : decode cX7_mixedPairs 59 = .ok (.iinc 8 1, 3) := by decide +kernel
theorem dX7_mixedPairs_62 : decode cX7_mixedPairs 62 = .ok (.goto (-48), 3) := by decide +kernel
theorem dX7_mixedPairs_65 : decode cX7_mixedPairs 65 = .ok (.iload 4, 2) := by decide +kernel
theorem dX7_mixedPairs_67 : decode cX7_mixedPairs 67 = .ok (.lookupswitch 31 #[(0, 25), (1, 28)], 25) := by decide +kernel
theorem dX7_mixedPairs_92 : decode cX7_mixedPairs 92 = .ok (.iload 5, 2) := by decide +kernel
theorem dX7_mixedPairs_94 : decode cX7_mixedPairs 94 = .ok (.ireturn, 1) := by decide +kernel
theorem dX7_mixedPairs_95 : decode cX7_mixedPairs 95 = .ok (.iload 6, 2) := by decide +kernel
theorem dX7_mixedPairs_97 : decode cX7_mixedPairs 97 = .ok (.ireturn, 1) := by decide +kernel
theorem dX7_mixedPairs_98 : decode cX7_mixedPairs 98 = .ok (.iload 7, 2) := by decide +kernel
theorem dX7_mixedPairs_100 : decode cX7_mixedPairs 100 = .ok (.ireturn, 1) := by decide +kernel
set_option maxRecDepth 20000 in
theorem ggX7_pairsOf_X7_shows : GoodIn wsX7_pairsOf wsX7_shows := goodIn_r _ [6, 7, 27, 28, 29] (by decide +kernel) (by decide +kernel)
set_option maxRecDepth 20000 in
theorem gX7_pairsOf_X7_shows : GoodIn wsX7_pairsOf (wsV RX7 40 RX7 yX7_shows wsX7_shows) := goodIn_app (goodIn_of _ (by decide +kernel)) ggX7_pairsOf_X7_shows
set_option maxRecDepth 20000 in
theorem ggX7_pairsOf_X4_lightest : GoodIn wsX7_pairsOf wsX4_lightest := goodIn_r _ [12, 13, 14, 30, 31] (by decide +kernel) (by decide +kernel)
set_option maxRecDepth 20000 in
theorem gX7_pairsOf_X4_lightest : GoodIn wsX7_pairsOf (wsV RX7 47 RX4 yX4_lightest wsX4_lightest) := goodIn_app (goodIn_of _ (by decide +kernel)) ggX7_pairsOf_X4_lightest
set_option maxRecDepth 20000 in
theorem ggX7_pairsOf_X4_heaviest : GoodIn wsX7_pairsOf wsX4_heaviest := goodIn_r _ [18, 13, 14, 30, 31] (by decide +kernel) (by decide +kernel)
set_option maxRecDepth 20000 in
theorem gX7_pairsOf_X4_heaviest : GoodIn wsX7_pairsOf (wsV RX7 21 RX4 yX4_heaviest wsX4_heaviest) := goodIn_app (goodIn_of _ (by decide +kernel)) ggX7_pairsOf_X4_heaviest
set_option maxRecDepth 20000 in
theorem ggX7_pairsOf_X7_loadTo : GoodIn wsX7_pairsOf wsX7_loadTo := goodIn_r _ [22, 7, 27, 28, 29] (by decide +kernel) (by decide +kernel)
set_option maxRecDepth 20000 in
theorem gX7_pairsOf_X7_loadTo : GoodIn wsX7_pairsOf (wsV RX7 44 RX7 yX7_loadTo wsX7_loadTo) := goodIn_app (goodIn_of _ (by decide +kernel)) ggX7_pairsOf_X7_loadTo
set_option maxRecDepth 20000 in
theorem ggX7_pairsOf_X7_loadFrom : GoodIn wsX7_pairsOf wsX7_loadFrom := goodIn_r _ [26, 7, 27, 28, 29] (by decide +kernel) (by decide +kernel)
set_option maxRecDepth 20000 in
theorem gX7_pairsOf_X7_loadFrom : GoodIn wsX7_pairsOf (wsV RX7 27 RX7 yX7_loadFrom wsX7_loadFrom) := goodIn_app (goodIn_of _ (by decide +kernel)) ggX7_pairsOf_X7_loadFrom
theorem dX7_pairsOf_0 : decode cX7_pairsOf 0 = .ok (.aload_n 0, 1) := by decide +kernel
theorem dX7_pairsOf_1 : decode cX7_pairsOf 1 = .ok (.iload 4, 2) := by decide +kernel
theorem dX7_pairsOf_3 : decode cX7_pairsOf 3 = .ok (.invokevirtual 40, 3) := by decide +kernel
theorem dX7_pairsOf_6 : decode cX7_pairsOf 6 = .ok (.ifCond .ne 5, 3) := by decide +kernel
theorem dX7_pairsOf_9 : decode cX7_pairsOf 9 = .ok (.iconst 0, 1) := by decide +kernel
theorem dX7_pairsOf_10 : decode cX7_pairsOf 10 = .ok (.ireturn, 1) := by decide +kernel
theorem dX7_pairsOf_11 : decode cX7_pairsOf 11 = .ok (.iconst 0, 1) := by decide +kernel
theorem dX7_pairsOf_12 : decode cX7_pairsOf 12 = .ok (.istore 5, 2) := by decide +kernel
theorem dX7_pairsOf_14 : decode cX7_pairsOf 14 = .ok (.iconst 0, 1) := by decide +kernel
theorem dX7_pairsOf_15 : decode cX7_pairsOf 15 = .ok (.istore 6, 2) := by decide +kernel
theorem dX7_pairsOf_17 : decode cX7_pairsOf 17 = .ok (.iload 6, 2) := by decide +kernel
theorem dX7_pairsOf_19 : decode cX7_pairsOf 19 = .ok (.iload_n 1, 1) := by decide +kernel
theorem dX7_pairsOf_20 : decode cX7_pairsOf 20 = .ok (.if_icmp .gt 84, 3) := by decide +kernel
theorem dX7_pairsOf_23 : decode cX7_pairsOf 23 = .ok (.iload_n 1, 1) := by decide +kernel
theorem dX7_pairsOf_24 : decode cX7_pairsOf 24 = .ok (.iload 6, 2) := by decide +kernel
theorem dX7_pairsOf_26 : decode cX7_pairsOf 26 = .ok (.isub, 1) := by decide +kernel
theorem dX7_pairsOf_27 : decode cX7_pairsOf 27 = .ok (.istore 7, 2) := by decide +kernel
theorem dX7_pairsOf_29 : decode cX7_pairsOf 29 = .ok (.iload 6, 2) := by decide +kernel
theorem dX7_pairsOf_31 : decode cX7_pairsOf 31 = .ok (.aload_n 2, 1) := by decide +kernel
theorem dX7_pairsOf_32 : decode cX7_pairsOf 32 = .ok (.invokevirtual 47, 3) := by decide +kernel
theorem dX7_pairsOf_35 : decode cX7_pairsOf 35 = .ok (.imul, 1) := by decide +kernel
theorem dX7_pairsOf_36 : decode cX7_pairsOf 36 = .ok (.iload 7, 2) := by decide +kernel
theorem dX7_pairsOf_38 : decode cX7_pairsOf 38 = .ok (.aload_n 3, 1) := by decide +kernel
theorem dX7_pairsOf_39 : decode cX7_pairsOf 39 = .ok (.invokevirtual 47, 3) := by decide +kernel
theorem dX7_pairsOf_42 : decode cX7_pairsOf 42 = .ok (.imul, 1) := by decide +kernel
theorem dX7_pairsOf_43 : decode cX7_pairsOf 43 = .ok (.iadd, 1) := by decide +kernel
theorem dX7_pairsOf_44 : decode cX7_pairsOf 44 = .ok (.aload_n 0, 1) := by decide +kernel
theorem dX7_pairsOf_45 : decode cX7_pairsOf 45 = .ok (.getfield 15, 3) := by decide +kernel
theorem dX7_pairsOf_48 : decode cX7_pairsOf 48 = .ok (.isub, 1) := by decide +kernel
theorem dX7_pairsOf_49 : decode cX7_pairsOf 49 = .ok (.istore 8, 2) := by decide +kernel
theorem dX7_pairsOf_51 : decode cX7_pairsOf 51 = .ok (.iload 6, 2) := by decide +kernel
theorem dX7_pairsOf_53 : decode cX7_pairsOf 53 = .ok (.aload_n 2, 1) := by decide +kernel
theorem dX7_pairsOf_54 : decode cX7_pairsOf 54 = .ok (.invokevirtual 21, 3) := by decide +kernel
theorem dX7_pairsOf_57 : decode cX7_pairsOf 57 = .ok (.imul, 1) := by decide +kernel
theorem dX7_pairsOf_58 : decode cX7_pairsOf 58 = .ok (.iload 7, 2) := by decide +kernel
theorem dX7_pairsOf_60 : decode cX7_pairsOf 60 = .ok (.aload_n 3, 1) := by decide +kernel
theorem dX7_pairsOf_61 : decode cX7_pairsOf 61 = .ok (.invokevirtual 21, 3) := by decide +kernel
theorem dX7_pairsOf_64 : decode cX7_pairsOf 64 = .ok (.imul, 1) := by decide +kernel
theorem dX7_pairsOf_65 : decode cX7_pairsOf 65 = .ok (.iadd, 1) := by decide +kernel
theorem dX7_pairsOf_66 : decode cX7_pairsOf 66 = .ok (.aload_n 0, 1) := by decide +kernel
theorem dX7_pairsOf_67 : decode cX7_pairsOf 67 = .ok (.getfield 15, 3) := by decide +kernel
theorem dX7_pairsOf_70 : decode cX7_pairsOf 70 = .ok (.iadd, 1) := by decide +kernel
theorem dX7_pairsOf_71 : decode cX7_pairsOf 71 = .ok (.istore 9, 2) := by decide +kernel
theorem dX7_pairsOf_73 : decode cX7_pairsOf 73 = .ok (.iload 8, 2) := by decide +kernel
theorem dX7_pairsOf_75 : decode cX7_pairsOf 75 = .ok (.aload_n 0, 1) := by decide +kernel
theorem dX7_pairsOf_76 : decode cX7_pairsOf 76 = .ok (.iload 4, 2) := by decide +kernel
theorem dX7_pairsOf_78 : decode cX7_pairsOf 78 = .ok (.invokevirtual 44, 3) := by decide +kernel
theorem dX7_pairsOf_81 : decode cX7_pairsOf 81 = .ok (.if_icmp .gt 17, 3) := by decide +kernel
theorem dX7_pairsOf_84 : decode cX7_pairsOf 84 = .ok (.iload 9, 2) := by decide +kernel
theorem dX7_pairsOf_86 : decode cX7_pairsOf 86 = .ok (.aload_n 0, 1) := by decide +kernel
theorem dX7_pairsOf_87 : decode cX7_pairsOf 87 = .ok (.iload 4, 2) := by decide +kernel
theorem dX7_pairsOf_89 : decode cX7_pairsOf 89 = .ok (.invokevirtual 27, 3) := by decide +kernel
theorem dX7_pairsOf_92 : decode cX7_pairsOf 92 = .ok (.if_icmp .lt 6, 3) := by decide +kernel
theorem dX7_pairsOf_95 : decode cX7_pairsOf 95 = .ok (.iinc 5 1, 3) := by decide +kernel
theorem dX7_pairsOf_98 : decode cX7_pairsOf 98 = .ok (.iinc 6 1, 3) := by decide +kernel
theorem dX7_pairsOf_101 : decode cX7_pairsOf 101 = .ok (.goto (-84), 3) := by decide +kernel
theorem dX7_pairsOf_104 : decode cX7_pairsOf 104 = .ok (.iload 5, 2) := by decide +kernel
theorem dX7_pairsOf_106 : decode cX7_pairsOf 106 = .ok (.ireturn, 1) := by decide +kernel
set_option maxRecDepth 20000 in
theorem ggX8_init_X0_init : GoodIn wsX8_init wsX0_init := goodIn_r _ [13, 14, 2, 3, 15, 16, 17, 18, 19, 20, 21, 22, 23, 24, 25, 26, 27, 28, 29, 30, 31, 32, 33, 34, 35, 36, 37, 38, 39, 40, 41, 42, 43, 44, 45, 46, 47, 48, 49, 50, 51, 52, 53, 54, 55, 56, 60, 61, 62, 63, 64, 65, 66, 67, 68, 69, 70, 71, 72, 73, 74, 75, 76, 77] (by decide +kernel) (by decide +kernel)
set_option maxRecDepth 20000 in
theorem gX8_init_X0_init : GoodIn wsX8_init (wsX0_init) := ggX8_init_X0_init
theorem dX8_init_0 : decode cX8_init 0 = .ok (.aload_n 0, 1) := by decide +kernel
theorem dX8_init_1 : decode cX8_init 1 = .ok (.invokespecial 3, 3) := by decide +kernel
theorem dX8_init_4 : decode cX8_init 4 = .ok (.aload_n 0, 1) := by decide +kernel
theorem dX8_init_5 : decode cX8_init 5 = .ok (.new 9, 3) := by decide +kernel
theorem dX8_init_8 : decode cX8_init 8 = .ok (.dup, 1) := by decide +kernel
theorem dX8_init_9 : decode cX8_init 9 = .ok (.invokespecial 11, 3) := by decide +kernel
theorem dX8_init_12 : decode cX8_init 12 = .ok (.putfield 12, 3) := by decide +kernel
theorem dX8_init_15 : decode cX8_init 15 = .ok (.aload_n 0, 1) := by decide +kernel
theorem dX8_init_16 : decode cX8_init 16 = .ok (.iconst 2, 1) := by decide +kernel
theorem dX8_init_17 : decode cX8_init 17 = .ok (.anewarray 9, 3) := by decide +kernel
theorem dX8_init_20 : decode cX8_init 20 = .ok (.putfield 18, 3) := by decide +kernel
theorem dX8_init_23 : decode cX8_init 23 = .ok (.aload_n 0, 1) := by decide +kernel
theorem dX8_init_24 : decode cX8_init 24 = .ok (.iconst 2, 1) := by decide +kernel
theorem dX8_init_25 : decode cX8_init 25 = .ok (.newarray .boolean, 2) := by decide +kernel
theorem dX8_init_27 : decode cX8_init 27 = .ok (.putfield 22, 3) := by decide +kernel
theorem dX8_init_30 : decode cX8_init 30 = .ok (.iconst 0, 1) := by decide +kernel
theorem dX8_init_31 : decode cX8_init 31 = .ok (.istore_n 1, 1) := by decide +kernel
theorem dX8_init_32 : decode cX8_init 32 = .ok (.iload_n 1, 1) := by decide +kernel
theorem dX8_init_33 : decode cX8_init 33 = .ok (.iconst 2, 1) := by decide +kernel
theorem dX8_init_34 : decode cX8_init 34 = .ok (.if_icmp .ge 22, 3) := by decide +kernel
theorem dX8_init_37 : decode cX8_init 37 = .ok (.aload_n 0, 1) := by decide +kernel
theorem dX8_init_38 : decode cX8_init 38 = .ok (.getfield 18, 3) := by decide +kernel
theorem dX8_init_41 : decode cX8_init 41 = .ok (.iload_n 1, 1) := by decide +kernel
theorem dX8_init_42 : decode cX8_init 42 = .ok (.new 9, 3) := by decide +kernel
theorem dX8_init_45 : decode cX8_init 45 = .ok (.dup, 1) := by decide +kernel
theorem dX8_init_46 : decode cX8_init 46 = .ok (.invokespecial 11, 3) := by decide +kernel
theorem dX8_init_49 : decode cX8_init 49 = .ok (.aastore, 1) := by decide +kernel
theorem dX8_init_50 : decode cX8_init 50 = .ok (.iinc 1 1, 3) := by decide +kernel
theorem dX8_init_53 : decode cX8_init 53 = .ok (.goto (-21), 3) := by decide +kernel
theorem dX8_init_56 : decode cX8_init 56 = .ok (.return_, 1) := by decide +kernel
set_option maxRecDepth 20000 in
theorem ggX8_copyFrom_X0_copyFrom : GoodIn wsX8_copyFrom wsX0_copyFrom := goodIn_r _ [8, 9, 10, 11, 12, 13, 14, 15, 16, 17, 18, 19, 20, 21, 22, 23, 24, 25, 26, 27, 28, 29, 30, 31, 32, 33, 34, 35, 36, 37, 38, 39, 40, 41, 42, 43, 44, 45, 46, 47, 48, 49, 50, 51, 52, 53, 54, 55, 59, 60, 61, 62, 63, 64, 65, 66, 67, 68, 69, 70, 71, 72, 73, 74, 75, 76, 77, 78, 79, 80, 81, 82, 83, 84, 85] (by decide +kernel) (by decide +kernel)
set_option maxRecDepth 20000 in
theorem gX8_copyFrom_X0_copyFrom : GoodIn wsX8_copyFrom (wsV RX8 26 RX0 yX0_copyFrom wsX0_copyFrom) := goodIn_app (goodIn_of _ (by decide +kernel)) ggX8_copyFrom_X0_copyFrom
theorem dX8_copyFrom_0 : decode cX8_copyFrom 0 = .ok (.aload_n 0, 1) := by decide +kernel
theorem dX8_copyFrom_1 : decode cX8_copyFrom 1 = .ok (.getfield 12, 3) := by decide +kernel
theorem dX8_copyFrom_4 : decode cX8_copyFrom 4 = .ok (.aload_n 1, 1) := by decide +kernel
theorem dX8_copyFrom_5 : decode cX8_copyFrom 5 = .ok (.getfield 12, 3) := by decide +kernel
theorem dX8_copyFrom_8 : decode cX8_copyFrom 8 = .ok (.invokevirtual 26, 3) := by decide +kernel
theorem dX8_copyFrom_11 : decode cX8_copyFrom 11 = .ok (.iconst 0, 1) := by decide +kernel
theorem dX8_copyFrom_12 : decode cX8_copyFrom 12 = .ok (.istore_n 2, 1) := by decide +kernel
theorem dX8_copyFrom_13 : decode cX8_copyFrom 13 = .ok (.iload_n 2, 1) := by decide +kernel
theorem dX8_copyFrom_14 : decode cX8_copyFrom 14 = .ok (.iconst 2, 1) := by decide +kernel
theorem dX8_copyFrom_15 : decode cX8_copyFrom 15 = .ok (.if_icmp .ge 45, 3) := by decide +kernel
theorem dX8_copyFrom_18 : decode cX8_copyFrom 18 = .ok (.aload_n 0, 1) := by decide +kernel
theorem dX8_copyFrom_19 : decode cX8_copyFrom 19 = .ok (.getfield 22, 3) := by decide +kernel
theorem dX8_copyFrom_22 : decode cX8_copyFrom 22 = .ok (.iload_n 2, 1) := by decide +kernel
theorem dX8_copyFrom_23 : decode cX8_copyFrom 23 = .ok (.aload_n 1, 1) := by decide +kernel
theorem dX8_copyFrom_24 : decode cX8_copyFrom 24 = .ok (.getfield 22, 3) := by decide +kernel
theorem dX8_copyFrom_27 : decode cX8_copyFrom 27 = .ok (.iload_n 2, 1) := by decide +kernel
theorem dX8_copyFrom_28 : decode cX8_copyFrom 28 = .ok (.baload, 1) := by decide +kernel
theorem dX8_copyFrom_29 : decode cX8_copyFrom 29 = .ok (.bastore, 1) := by decide +kernel
theorem dX8_copyFrom_30 : decode cX8_copyFrom 30 = .ok (.aload_n 0, 1) := by decide +kernel
theorem dX8_copyFrom_31 : decode cX8_copyFrom 31 = .ok (.getfield 22, 3) := by decide +kernel
theorem dX8_copyFrom_34 : decode cX8_copyFrom 34 = .ok (.iload_n 2, 1) := by decide +kernel
theorem dX8_copyFrom_35 : decode cX8_copyFrom 35 = .ok (.baload, 1) := by decide +kernel
theorem dX8_copyFrom_36 : decode cX8_copyFrom 36 = .ok (.ifCond .eq 18, 3) := by decide +kernel
theorem dX8_copyFrom_39 : decode cX8_copyFrom 39 = .ok (.aload_n 0, 1) := by decide +kernel
theorem dX8_copyFrom_40 : decode cX8_copyFrom 40 = .ok (.getfield 18, 3) := by decide +kernel
theorem dX8_copyFrom_43 : decode cX8_copyFrom 43 = .ok (.iload_n 2, 1) := by decide +kernel
theorem dX8_copyFrom_44 : decode cX8_copyFrom 44 = .ok (.aaload, 1) := by decide +kernel
theorem dX8_copyFrom_45 : decode cX8_copyFrom 45 = .ok (.aload_n 1, 1) := by decide +kernel
theorem dX8_copyFrom_46 : decode cX8_copyFrom 46 = .ok (.getfield 18, 3) := by decide +kernel
theorem dX8_copyFrom_49 : decode cX8_copyFrom 49 = .ok (.iload_n 2, 1) := by decide +kernel
theorem dX8_copyFrom_50 : decode cX8_copyFrom 50 = .ok (.aaload, 1) := by decide +kernel
theorem dX8_copyFrom_51 : decode cX8_copyFrom 51 = .ok (.invokevirtual 26, 3) := by decide +kernel
theorem dX8_copyFrom_54 : decode cX8_copyFrom 54 = .ok (.iinc 2 1, 3) := by decide +kernel
theorem dX8_copyFrom_57 : decode cX8_copyFrom 57 = .ok (.goto (-44), 3) := by decide +kernel
theorem dX8_copyFrom_60 : decode cX8_copyFrom 60 = .ok (.return_, 1) := by decide +kernel
theorem dX8_slotsInUse_0 : decode cX8_slotsInUse 0 = .ok (.iconst 0, 1) := by decide +kernel
theorem dX8_slotsInUse_1 : decode cX8_slotsInUse 1 = .ok (.istore_n 1, 1) := by decide +kernel
theorem dX8_slotsInUse_2 : decode cX8_slotsInUse 2 = .ok (.aload_n 0, 1) := by decide +kernel
theorem dX8_slotsInUse_3 : decode cX8_slotsInUse 3 = .ok (.getfield 22, 3) := by decide +kernel
theorem dX8_slotsInUse_6 : decode cX8_slotsInUse 6 = .ok (.astore_n 2, 1) := by decide +kernel
theorem dX8_slotsInUse_7 : decode cX8_slotsInUse 7 = .ok (.aload_n 2, 1) := by decide +kernel
theorem dX8_slotsInUse_8 : decode cX8_slotsInUse 8 = .ok (.arraylength, 1) := by decide +kernel
theorem dX8_slotsInUse_9 : decode cX8_slotsInUse 9 = .ok (.istore_n 3, 1) := by decide +kernel
theorem dX8_slotsInUse_10 : decode cX8_slotsInUse 10 = .ok (.iconst 0, 1) := by decide +kernel
theorem dX8_slotsInUse_11 : decode cX8_slotsInUse 11 = .ok (.istore 4, 2) := by decide +kernel
theorem dX8_slotsInUse_13 : decode cX8_slotsInUse 13 = .ok (.iload 4, 2) := by decide +kernel
theorem dX8_slotsInUse_15 : decode cX8_slotsInUse 15 = .ok (.iload_n 3, 1) := by decide +kernel
theorem dX8_slotsInUse_16 : decode cX8_slotsInUse 16 = .ok (.if_icmp .ge 23, 3) := by decide +kernel
theorem dX8_slotsInUse_19 : decode cX8_slotsInUse 19 = .ok (.aload_n 2, 1) := by decide +kernel
theorem dX8_slotsInUse_20 : decode cX8_slotsInUse 20 = .ok (.iload 4, 2) := by decide +kernel
theorem dX8_slotsInUse_22 : decode cX8_slotsInUse 22 = .ok (.baload, 1) := by decide +kernel
theorem dX8_slotsInUse_23 : decode cX8_slotsInUse 23 = .ok (.istore 5, 2) := by decide +kernel
theorem dX8_slotsInUse_25 : decode cX8_slotsInUse 25 = .ok (.iload 5, 2) := by decide +kernel
theorem dX8_slotsInUse_27 : decode cX8_slotsInUse 27 = .ok (.ifCond .eq 6, 3) := by decide +kernel
theorem dX8_slotsInUse_30 : decode cX8_slotsInUse 30 = .ok (.iinc 1 1, 3) := by decide +kernel
theorem dX8_slotsInUse_33 : decode cX8_slotsInUse 33 = .ok (.iinc 4 1, 3) := by decide +kernel
theorem dX8_slotsInUse_36 : decode cX8_slotsInUse 36 = .ok (.goto (-23), 3) := by decide +kernel
theorem dX8_slotsInUse_39 : decode cX8_slotsInUse 39 = .ok (.iload_n 1, 1) := by decide +kernel
theorem dX8_slotsInUse_40 : decode cX8_slotsInUse 40 = .ok (.ireturn, 1) := by decide +kernel
set_option maxRecDepth 20000 in
theorem ggX9_init_X3_init : GoodIn wsX9_init wsX3_init := goodIn_r _ [18, 19, 2, 3, 20, 21, 22, 23, 24, 25, 26, 27, 28, 29, 30, 31, 32, 33, 34, 35, 36, 37, 38, 39, 40, 41, 42, 43, 44, 45, 46, 47, 48, 49, 50, 51, 52, 53, 54, 55, 13, 14, 56, 57, 58, 59, 60, 61, 62, 63, 64, 65, 66, 67, 68, 69, 70, 71, 86, 87, 88, 89, 106, 107, 108, 109, 110, 111, 112, 113, 114, 115, 116, 117, 118, 119, 120, 121, 122, 123, 124, 125, 126, 127, 128, 99, 100, 101, 102, 103, 104, 105] (by decide +kernel) (by decide +kernel)
set_option maxRecDepth 20000 in
theorem gX9_init_X3_init : GoodIn wsX9_init (wsX3_init) := ggX9_init_X3_init
set_option maxRecDepth 20000 in
theorem ggX9_init_X6_init : GoodIn wsX9_init wsX6_init := goodIn_r _ [73, 74, 2, 3, 75, 76, 77, 78, 79, 80, 81, 82, 83, 84, 85, 93, 94, 95, 96, 97, 98, 129, 130, 131, 132] (by decide +kernel) (by decide +kernel)
set_option maxRecDepth 20000 in
theorem gX9_init_X6_init_n18 : GoodIn wsX9_init (wsX6_init) := ggX9_init_X6_init
set_option maxRecDepth 20000 in
theorem ggX9_init_X5_init : GoodIn wsX9_init wsX5_init := goodIn_r _ [70, 71, 2, 3] (by decide +kernel) (by decide +kernel)
set_option maxRecDepth 20000 in
theorem gX9_init_X5_init_n25 : GoodIn wsX9_init (wsX5_init) := ggX9_init_X5_init
theorem dX9_init_0 : decode cX9_init 0 = .ok (.aload_n 0, 1) := by decide +kernel
theorem dX9_init_1 : decode cX9_init 1 = .ok (.invokespecial 1, 3) := by decide +kernel
theorem dX9_init_4 : decode cX9_init 4 = .ok (.aload_n 0, 1) := by decide +kernel
theorem dX9_init_5 : decode cX9_init 5 = .ok (.new 7, 3) := by decide +kernel
theorem dX9_init_8 : decode cX9_init 8 = .ok (.dup, 1) := by decide +kernel
theorem dX9_init_9 : decode cX9_init 9 = .ok (.invokespecial 9, 3) := by decide +kernel
theorem dX9_init_12 : decode cX9_init 12 = .ok (.putfield 10, 3) := by decide +kernel
theorem dX9_init_15 : decode cX9_init 15 = .ok (.aload_n 0, 1) := by decide +kernel
theorem dX9_init_16 : decode cX9_init 16 = .ok (.new 16, 3) := by decide +kernel
theorem dX9_init_19 : decode cX9_init 19 = .ok (.dup, 1) := by decide +kernel
theorem dX9_init_20 : decode cX9_init 20 = .ok (.invokespecial 18, 3) := by decide +kernel
theorem dX9_init_23 : decode cX9_init 23 = .ok (.putfield 19, 3) := by decide +kernel
theorem dX9_init_26 : decode cX9_init 26 = .ok (.aload_n 0, 1) := by decide +kernel
theorem dX9_init_27 : decode cX9_init 27 = .ok (.new 23, 3) := by decide +kernel
theorem dX9_init_30 : decode cX9_init 30 = .ok (.dup, 1) := by decide +kernel
theorem dX9_init_31 : decode cX9_init 31 = .ok (.invokespecial 25, 3) := by decide +kernel
theorem dX9_init_34 : decode cX9_init 34 = .ok (.putfield 26, 3) := by decide +kernel
theorem dX9_init_37 : decode cX9_init 37 = .ok (.return_, 1) := by decide +kernel
set_option maxRecDepth 20000 in
theorem ggX9_setKind_X3_prepare : GoodIn wsX9_setKind wsX3_prepare := goodIn_r _ [6, 7, 8, 9, 10, 11, 12, 13, 14, 15, 16, 17, 18, 19, 20, 21, 22, 23, 24, 25, 26, 27, 28, 29, 30, 31, 32, 33, 34, 35, 36, 37, 38, 39, 40, 41, 42, 43, 44, 45, 46, 47, 48, 49, 50, 51, 52, 53, 54, 55, 56, 57, 58, 59, 60, 61, 62, 63, 64, 65, 66, 67, 68, 111, 112, 113, 114, 115, 116, 117, 118, 119, 120, 121, 122, 123, 124, 125, 126, 127, 128, 129, 130, 131, 132, 133, 134, 135, 136, 137, 138, 139, 140, 141, 142, 143, 144] (by decide +kernel) (by decide +kernel)
set_option maxRecDepth 20000 in
theorem gX9_setKind_X3_prepare : GoodIn wsX9_setKind (wsV RX9 30 RX3 yX3_prepare wsX3_prepare) := goodIn_app (goodIn_of _ (by decide +kernel)) ggX9_setKind_X3_prepare
