theorem dX6_isNumber_18 : decode cX6_isNumber 18 = .ok (.invokestatic 140, 3) := by decide +kernel
theorem dX6_isNumber_21 : decode cX6_isNumber 21 = .ok (.ifCond .eq 9, 3) := by decide +kernel
theorem dX6_isNumber_24 : decode cX6_isNumber 24 = .ok (.iload_n 1, 1) := by decide +kernel
theorem dX6_isNumber_25 : decode cX6_isNumber 25 = .ok (.bipush 6, 2) := by decide +kernel
theorem dX6_isNumber_27 : decode cX6_isNumber 27 = .ok (.if_icmp .le 5, 3) := by decide +kernel
theorem dX6_isNumber_30 : decode cX6_isNumber 30 = .ok (.iconst 0, 1) := by decide +kernel
theorem dX6_isNumber_31 : decode cX6_isNumber 31 = .ok (.ireturn, 1) := by decide +kernel
theorem dX6_isNumber_32 : decode cX6_isNumber 32 = .ok (.iload_n 1, 1) := by decide +kernel
theorem dX6_isNumber_33 : decode cX6_isNumber 33 = .ok (.iconst 1, 1) := by decide +kernel
theorem dX6_isNumber_34 : decode cX6_isNumber 34 = .ok (.if_icmp .eq 16, 3) := by decide +kernel
theorem dX6_isNumber_37 : decode cX6_isNumber 37 = .ok (.aload_n 0, 1) := by decide +kernel
theorem dX6_isNumber_38 : decode cX6_isNumber 38 = .ok (.aload_n 0, 1) := by decide +kernel
theorem dX6_isNumber_39 : decode cX6_isNumber 39 = .ok (.getfield 42, 3) := by decide +kernel
theorem dX6_isNumber_42 : decode cX6_isNumber 42 = .ok (.invokevirtual 131, 3) := by decide +kernel
theorem dX6_isNumber_45 : decode cX6_isNumber 45 = .ok (.bipush 48, 2) := by decide +kernel
theorem dX6_isNumber_47 : decode cX6_isNumber 47 = .ok (.if_icmp .eq 7, 3) := by decide +kernel
theorem dX6_isNumber_50 : decode cX6_isNumber 50 = .ok (.iconst 1, 1) := by decide +kernel
theorem dX6_isNumber_51 : decode cX6_isNumber 51 = .ok (.goto 4, 3) := by decide +kernel
theorem dX6_isNumber_54 : decode cX6_isNumber 54 = .ok (.iconst 0, 1) := by decide +kernel
theorem dX6_isNumber_55 : decode cX6_isNumber 55 = .ok (.ireturn, 1) := by decide +kernel
set_option maxRecDepth 20000 in
theorem ggX6_value_X6_signAt : GoodIn wsX6_value wsX6_signAt := goodIn_r _ [7, 8, 9, 10, 11, 12, 13, 14, 15, 16, 17, 18] (by decide +kernel) (by decide +kernel)
set_option maxRecDepth 20000 in
theorem gX6_value_X6_signAt : GoodIn wsX6_value (wsV RX6 131 RX6 yX6_signAt wsX6_signAt) := goodIn_app (goodIn_of _ (by decide +kernel)) ggX6_value_X6_signAt
theorem dX6_value_0 : decode cX6_value 0 = .ok (.iconst 0, 1) := by decide +kernel
theorem dX6_value_1 : decode cX6_value 1 = .ok (.istore_n 1, 1) := by decide +kernel
theorem dX6_value_2 : decode cX6_value 2 = .ok (.aload_n 0, 1) := by decide +kernel
theorem dX6_value_3 : decode cX6_value 3 = .ok (.getfield 42, 3) := by decide +kernel
theorem dX6_value_6 : decode cX6_value 6 = .ok (.istore_n 2, 1) := by decide +kernel
theorem dX6_value_7 : decode cX6_value 7 = .ok (.iload_n 2, 1) := by decide +kernel
theorem dX6_value_8 : decode cX6_value 8 = .ok (.aload_n 0, 1) := by decide +kernel
theorem dX6_value_9 : decode cX6_value 9 = .ok (.getfield 36, 3) := by decide +kernel
theorem dX6_value_12 : decode cX6_value 12 = .ok (.if_icmp .ge 23, 3) := by decide +kernel
theorem dX6_value_15 : decode cX6_value 15 = .ok (.bipush 10, 2) := by decide +kernel
theorem dX6_value_17 : decode cX6_value 17 = .ok (.iload_n 1, 1) := by decide +kernel
theorem dX6_value_18 : decode cX6_value 18 = .ok (.imul, 1) := by decide +kernel
theorem dX6_value_19 : decode cX6_value 19 = .ok (.aload_n 0, 1) := by decide +kernel
theorem dX6_value_20 : decode cX6_value 20 = .ok (.iload_n 2, 1) := by decide +kernel
theorem dX6_value_21 : decode cX6_value 21 = .ok (.invokevirtual 131, 3) := by decide +kernel
theorem dX6_value_24 : decode cX6_value 24 = .ok (.iadd, 1) := by decide +kernel
theorem dX6_value_25 : decode cX6_value 25 = .ok (.bipush 48, 2) := by decide +kernel
theorem dX6_value_27 : decode cX6_value 27 = .ok (.isub, 1) := by decide +kernel
theorem dX6_value_28 : decode cX6_value 28 = .ok (.istore_n 1, 1) := by decide +kernel
theorem dX6_value_29 : decode cX6_value 29 = .ok (.iinc 2 1, 3) := by decide +kernel
theorem dX6_value_32 : decode cX6_value 32 = .ok (.goto (-25), 3) := by decide +kernel
theorem dX6_value_35 : decode cX6_value 35 = .ok (.iload_n 1, 1) := by decide +kernel
theorem dX6_value_36 : decode cX6_value 36 = .ok (.ireturn, 1) := by decide +kernel
set_option maxRecDepth 20000 in
theorem ggX6_readToken_X6_signAt : GoodIn wsX6_readToken wsX6_signAt := goodIn_r _ [8, 3, 9, 10, 11, 12, 19, 20, 21, 22, 23, 24] (by decide +kernel) (by decide +kernel)
set_option maxRecDepth 20000 in
theorem gX6_readToken_X6_signAt : GoodIn wsX6_readToken (wsV RX6 131 RX6 yX6_signAt wsX6_signAt) := goodIn_app (goodIn_of _ (by decide +kernel)) ggX6_readToken_X6_signAt
set_option maxRecDepth 20000 in
theorem ggX6_readToken_X6_isLetter : GoodIn wsX6_readToken wsX6_isLetter := goodIn_r _ [15] (by decide +kernel) (by decide +kernel)
set_option maxRecDepth 20000 in
theorem gX6_readToken_X6_isLetter : GoodIn wsX6_readToken (va_wsS RX6 144 yX6_isLetter wsX6_isLetter) := goodIn_app (goodIn_of _ (by decide +kernel)) ggX6_readToken_X6_isLetter
set_option maxRecDepth 20000 in
theorem ggX6_readToken_X6_isDigit : GoodIn wsX6_readToken wsX6_isDigit := goodIn_r _ [18] (by decide +kernel) (by decide +kernel)
set_option maxRecDepth 20000 in
theorem gX6_readToken_X6_isDigit : GoodIn wsX6_readToken (va_wsS RX6 140 yX6_isDigit wsX6_isDigit) := goodIn_app (goodIn_of _ (by decide +kernel)) ggX6_readToken_X6_isDigit
theorem dX6_readToken_0 : decode cX6_readToken 0 = .ok (.aload_n 0, 1) := by decide +kernel
theorem dX6_readToken_1 : decode cX6_readToken 1 = .ok (.aload_n 0, 1) := by decide +kernel
theorem dX6_readToken_2 : decode cX6_readToken 2 = .ok (.getfield 36, 3) := by decide +kernel
theorem dX6_readToken_5 : decode cX6_readToken 5 = .ok (.putfield 42, 3) := by decide +kernel
theorem dX6_readToken_8 : decode cX6_readToken 8 = .ok (.aload_n 0, 1) := by decide +kernel
theorem dX6_readToken_9 : decode cX6_readToken 9 = .ok (.getfield 42, 3) := by decide +kernel
theorem dX6_readToken_12 : decode cX6_readToken 12 = .ok (.aload_n 0, 1) := by decide +kernel
theorem dX6_readToken_13 : decode cX6_readToken 13 = .ok (.getfield 31, 3) := by decide +kernel
theorem dX6_readToken_16 : decode cX6_readToken 16 = .ok (.if_icmp .ge 29, 3) := by decide +kernel
theorem dX6_readToken_19 : decode cX6_readToken 19 = .ok (.aload_n 0, 1) := by decide +kernel
theorem dX6_readToken_20 : decode cX6_readToken 20 = .ok (.aload_n 0, 1) := by decide +kernel
theorem dX6_readToken_21 : decode cX6_readToken 21 = .ok (.getfield 42, 3) := by decide +kernel
theorem dX6_readToken_24 : decode cX6_readToken 24 = .ok (.invokevirtual 131, 3) := by decide +kernel
theorem dX6_readToken_27 : decode cX6_readToken 27 = .ok (.bipush 32, 2) := by decide +kernel
theorem dX6_readToken_29 : decode cX6_readToken 29 = .ok (.if_icmp .ne 16, 3) := by decide +kernel
theorem dX6_readToken_32 : decode cX6_readToken 32 = .ok (.aload_n 0, 1) := by decide +kernel
theorem dX6_readToken_33 : decode cX6_readToken 33 = .ok (.dup, 1) := by decide +kernel
theorem dX6_readToken_34 : decode cX6_readToken 34 = .ok (.getfield 42, 3) := by decide +kernel
theorem dX6_readToken_37 : decode cX6_readToken 37 = .ok (.iconst 1, 1) := by decide +kernel
theorem dX6_readToken_38 : decode cX6_readToken 38 = .ok (.iadd, 1) := by decide +kernel
theorem dX6_readToken_39 : decode cX6_readToken 39 = .ok (.putfield 42, 3) := by decide +kernel
theorem dX6_readToken_42 : decode cX6_readToken 42 = .ok (.goto (-34), 3) := by decide +kernel
theorem dX6_readToken_45 : decode cX6_readToken 45 = .ok (.aload_n 0, 1) := by decide +kernel
theorem dX6_readToken_46 : decode cX6_readToken 46 = .ok (.aload_n 0, 1) := by decide +kernel
theorem dX6_readToken_47 : decode cX6_readToken 47 = .ok (.getfield 42, 3) := by decide +kernel
theorem dX6_readToken_50 : decode cX6_readToken 50 = .ok (.putfield 36, 3) := by decide +kernel
theorem dX6_readToken_53 : decode cX6_readToken 53 = .ok (.aload_n 0, 1) := by decide +kernel
theorem dX6_readToken_54 : decode cX6_readToken 54 = .ok (.aload_n 0, 1) := by decide +kernel
theorem dX6_readToken_55 : decode cX6_readToken 55 = .ok (.getfield 42, 3) := by decide +kernel
theorem dX6_readToken_58 : decode cX6_readToken 58 = .ok (.invokevirtual 131, 3) := by decide +kernel
theorem dX6_readToken_61 : decode cX6_readToken 61 = .ok (.invokestatic 144, 3) := by decide +kernel
theorem dX6_readToken_64 : decode cX6_readToken 64 = .ok (.ifCond .eq 41, 3) := by decide +kernel
theorem dX6_readToken_67 : decode cX6_readToken 67 = .ok (.aload_n 0, 1) := by decide +kernel
theorem dX6_readToken_68 : decode cX6_readToken 68 = .ok (.getfield 36, 3) := by decide +kernel
theorem dX6_readToken_71 : decode cX6_readToken 71 = .ok (.aload_n 0, 1) := by decide +kernel
theorem dX6_readToken_72 : decode cX6_readToken 72 = .ok (.getfield 31, 3) := by decide +kernel
theorem dX6_readToken_75 : decode cX6_readToken 75 = .ok (.if_icmp .ge 103, 3) := by decide +kernel
theorem dX6_readToken_78 : decode cX6_readToken 78 = .ok (.aload_n 0, 1) := by decide +kernel
theorem dX6_readToken_79 : decode cX6_readToken 79 = .ok (.aload_n 0, 1) := by decide +kernel
theorem dX6_readToken_80 : decode cX6_readToken 80 = .ok (.getfield 36, 3) := by decide +kernel
theorem dX6_readToken_83 : decode cX6_readToken 83 = .ok (.invokevirtual 131, 3) := by decide +kernel
theorem dX6_readToken_86 : decode cX6_readToken 86 = .ok (.invokestatic 144, 3) := by decide +kernel
theorem dX6_readToken_89 : decode cX6_readToken 89 = .ok (.ifCond .eq 89, 3) := by decide +kernel
theorem dX6_readToken_92 : decode cX6_readToken 92 = .ok (.aload_n 0, 1) := by decide +kernel
theorem dX6_readToken_93 : decode cX6_readToken 93 = .ok (.dup, 1) := by decide +kernel
theorem dX6_readToken_94 : decode cX6_readToken 94 = .ok (.getfield 36, 3) := by decide +kernel
theorem dX6_readToken_97 : decode cX6_readToken 97 = .ok (.iconst 1, 1) := by decide +kernel
theorem dX6_readToken_98 : decode cX6_readToken 98 = .ok (.iadd, 1) := by decide +kernel
theorem dX6_readToken_99 : decode cX6_readToken 99 = .ok (.putfield 36, 3) := by decide +kernel
theorem dX6_readToken_102 : decode cX6_readToken 102 = .ok (.goto (-35), 3) := by decide +kernel
theorem dX6_readToken_105 : decode cX6_readToken 105 = .ok (.aload_n 0, 1) := by decide +kernel
theorem dX6_readToken_106 : decode cX6_readToken 106 = .ok (.aload_n 0, 1) := by decide +kernel
theorem dX6_readToken_107 : decode cX6_readToken 107 = .ok (.getfield 42, 3) := by decide +kernel
theorem dX6_readToken_110 : decode cX6_readToken 110 = .ok (.invokevirtual 131, 3) := by decide +kernel
theorem dX6_readToken_113 : decode cX6_readToken 113 = .ok (.invokestatic 140, 3) := by decide +kernel
theorem dX6_readToken_116 : decode cX6_readToken 116 = .ok (.ifCond .eq 41, 3) := by decide +kernel
theorem dX6_readToken_119 : decode cX6_readToken 119 = .ok (.aload_n 0, 1) := by decide +kernel
theorem dX6_readToken_120 : decode cX6_readToken 120 = .ok (.getfield 36, 3) := by decide +kernel
theorem dX6_readToken_123 : decode cX6_readToken 123 = .ok (.aload_n 0, 1) := by decide +kernel
theorem dX6_readToken_124 : decode cX6_readToken 124 = .ok (.getfield 31, 3) := by decide +kernel
theorem dX6_readToken_127 : decode cX6_readToken 127 = .ok (.if_icmp .ge 51, 3) := by decide +kernel
theorem dX6_readToken_130 : decode cX6_readToken 130 = .ok (.aload_n 0, 1) := by decide +kernel
theorem dX6_readToken_131 : decode cX6_readToken 131 = .ok (.aload_n 0, 1) := by decide +kernel
theorem dX6_readToken_132 : decode cX6_readToken 132 = .ok (.getfield 36, 3) := by decide +kernel
theorem dX6_readToken_135 : decode cX6_readToken 135 = .ok (.invokevirtual 131, 3) := by decide +kernel
theorem dX6_readToken_138 : decode cX6_readToken 138 = .ok (.invokestatic 140, 3) := by decide +kernel
theorem dX6_readToken_141 : decode cX6_readToken 141 = .ok (.ifCond .eq 37, 3) := by decide +kernel
theorem dX6_readToken_144 : decode cX6_readToken 144 = .ok (.aload_n 0, 1) := by decide +kernel
theorem dX6_readToken_145 : decode cX6_readToken 145 = .ok (.dup, 1) := by decide +kernel
theorem dX6_readToken_146 : decode cX6_readToken 146 = .ok (.getfield 36, 3) := by decide +kernel
theorem dX6_readToken_149 : decode cX6_readToken 149 = .ok (.iconst 1, 1) := by decide +kernel
theorem dX6_readToken_150 : decode cX6_readToken 150 = .ok (.iadd, 1) := by decide +kernel
theorem dX6_readToken_151 : decode cX6_readToken 151 = .ok (.putfield 36, 3) := by decide +kernel
theorem dX6_readToken_154 : decode cX6_readToken 154 = .ok (.goto (-35), 3) := by decide +kernel
theorem dX6_readToken_157 : decode cX6_readToken 157 = .ok (.aload_n 0, 1) := by decide +kernel
theorem dX6_readToken_158 : decode cX6_readToken 158 = .ok (.getfield 42, 3) := by decide +kernel
theorem dX6_readToken_161 : decode cX6_readToken 161 = .ok (.aload_n 0, 1) := by decide +kernel
theorem dX6_readToken_162 : decode cX6_readToken 162 = .ok (.getfield 31, 3) := by decide +kernel
theorem dX6_readToken_165 : decode cX6_readToken 165 = .ok (.if_icmp .ge 13, 3) := by decide +kernel
theorem dX6_readToken_168 : decode cX6_readToken 168 = .ok (.aload_n 0, 1) := by decide +kernel
theorem dX6_readToken_169 : decode cX6_readToken 169 = .ok (.dup, 1) := by decide +kernel
theorem dX6_readToken_170 : decode cX6_readToken 170 = .ok (.getfield 36, 3) := by decide +kernel
theorem dX6_readToken_173 : decode cX6_readToken 173 = .ok (.iconst 1, 1) := by decide +kernel
theorem dX6_readToken_174 : decode cX6_readToken 174 = .ok (.iadd, 1) := by decide +kernel
theorem dX6_readToken_175 : decode cX6_readToken 175 = .ok (.putfield 36, 3) := by decide +kernel
theorem dX6_readToken_178 : decode cX6_readToken 178 = .ok (.return_, 1) := by decide +kernel
set_option maxRecDepth 20000 in
theorem ggX6_signAt_X9_within : GoodIn wsX6_signAt wsX9_within := goodIn_r _ [5] (by decide +kernel) (by decide +kernel)
set_option maxRecDepth 20000 in
theorem gX6_signAt_X9_within_n26 : GoodIn wsX6_signAt (wsX9_within) := ggX6_signAt_X9_within
theorem dX6_signAt_0 : decode cX6_signAt 0 = .ok (.iload_n 1, 1) := by decide +kernel
theorem dX6_signAt_1 : decode cX6_signAt 1 = .ok (.aload_n 0, 1) := by decide +kernel
theorem dX6_signAt_2 : decode cX6_signAt 2 = .ok (.getfield 31, 3) := by decide +kernel
theorem dX6_signAt_5 : decode cX6_signAt 5 = .ok (.if_icmp .ge 14, 3) := by decide +kernel
theorem dX6_signAt_8 : decode cX6_signAt 8 = .ok (.iload_n 1, 1) := by decide +kernel
theorem dX6_signAt_9 : decode cX6_signAt 9 = .ok (.iconst 0, 1) := by decide +kernel
theorem dX6_signAt_10 : decode cX6_signAt 10 = .ok (.sipush 139, 3) := by decide +kernel
theorem dX6_signAt_13 : decode cX6_signAt 13 = .ok (.invokestatic 26, 3) := by decide +kernel
theorem dX6_signAt_16 : decode cX6_signAt 16 = .ok (.ifCond .ne 5, 3) := by decide +kernel
theorem dX6_signAt_19 : decode cX6_signAt 19 = .ok (.iconst 0, 1) := by decide +kernel
theorem dX6_signAt_20 : decode cX6_signAt 20 = .ok (.ireturn, 1) := by decide +kernel
theorem dX6_signAt_21 : decode cX6_signAt 21 = .ok (.aload_n 0, 1) := by decide +kernel
theorem dX6_signAt_22 : decode cX6_signAt 22 = .ok (.getfield 9, 3) := by decide +kernel
theorem dX6_signAt_25 : decode cX6_signAt 25 = .ok (.iload_n 1, 1) := by decide +kernel
theorem dX6_signAt_26 : decode cX6_signAt 26 = .ok (.caload, 1) := by decide +kernel
theorem dX6_signAt_27 : decode cX6_signAt 27 = .ok (.ireturn, 1) := by decide +kernel
theorem dX6_isLetter_0 : decode cX6_isLetter 0 = .ok (.iload_n 0, 1) := by decide +kernel
theorem dX6_isLetter_1 : decode cX6_isLetter 1 = .ok (.bipush 97, 2) := by decide +kernel
theorem dX6_isLetter_3 : decode cX6_isLetter 3 = .ok (.if_icmp .lt 13, 3) := by decide +kernel
theorem dX6_isLetter_6 : decode cX6_isLetter 6 = .ok (.iload_n 0, 1) := by decide +kernel
theorem dX6_isLetter_7 : decode cX6_isLetter 7 = .ok (.bipush 122, 2) := by decide +kernel
theorem dX6_isLetter_9 : decode cX6_isLetter 9 = .ok (.if_icmp .gt 7, 3) := by decide +kernel
theorem dX6_isLetter_12 : decode cX6_isLetter 12 = .ok (.iconst 1, 1) := by decide +kernel
theorem dX6_isLetter_13 : decode cX6_isLetter 13 = .ok (.goto 4, 3) := by decide +kernel
theorem dX6_isLetter_16 : decode cX6_isLetter 16 = .ok (.iconst 0, 1) := by decide +kernel
theorem dX6_isLetter_17 : decode cX6_isLetter 17 = .ok (.ireturn, 1) := by decide +kernel
theorem dX6_isDigit_0 : decode cX6_isDigit 0 = .ok (.iload_n 0, 1) := by decide +kernel
theorem dX6_isDigit_1 : decode cX6_isDigit 1 = .ok (.bipush 48, 2) := by decide +kernel
theorem dX6_isDigit_3 : decode cX6_isDigit 3 = .ok (.if_icmp .lt 13, 3) := by decide +kernel
theorem dX6_isDigit_6 : decode cX6_isDigit 6 = .ok (.iload_n 0, 1) := by decide +kernel
theorem dX6_isDigit_7 : decode cX6_isDigit 7 = .ok (.bipush 57, 2) := by decide +kernel
theorem dX6_isDigit_9 : decode cX6_isDigit 9 = .ok (.if_icmp .gt 7, 3) := by decide +kernel
theorem dX6_isDigit_12 : decode cX6_isDigit 12 = .ok (.iconst 1, 1) := by decide +kernel
theorem dX6_isDigit_13 : decode cX6_isDigit 13 = .ok (.goto 4, 3) := by decide +kernel
theorem dX6_isDigit_16 : decode cX6_isDigit 16 = .ok (.iconst 0, 1) := by decide +kernel
theorem dX6_isDigit_17 : decode cX6_isDigit 17 = .ok (.ireturn, 1) := by decide +kernel
theorem dX7_init_0 : decode cX7_init 0 = .ok (.aload_n 0, 1) := by decide +kernel
theorem dX7_init_1 : decode cX7_init 1 = .ok (.invokespecial 3, 3) := by decide +kernel
theorem dX7_init_4 : decode cX7_init 4 = .ok (.aload_n 0, 1) := by decide +kernel
theorem dX7_init_5 : decode cX7_init 5 = .ok (.bipush 100, 2) := by decide +kernel
theorem dX7_init_7 : decode cX7_init 7 = .ok (.putfield 9, 3) := by decide +kernel
theorem dX7_init_10 : decode cX7_init 10 = .ok (.aload_n 0, 1) := by decide +kernel
theorem dX7_init_11 : decode cX7_init 11 = .ok (.bipush 50, 2) := by decide +kernel
theorem dX7_init_13 : decode cX7_init 13 = .ok (.putfield 15, 3) := by decide +kernel
theorem dX7_init_16 : decode cX7_init 16 = .ok (.return_, 1) := by decide +kernel
theorem dX7_copyFrom_0 : decode cX7_copyFrom 0 = .ok (.aload_n 0, 1) := by decide +kernel
theorem dX7_copyFrom_1 : decode cX7_copyFrom 1 = .ok (.aload_n 1, 1) := by decide +kernel
theorem dX7_copyFrom_2 : decode cX7_copyFrom 2 = .ok (.getfield 9, 3) := by decide +kernel
theorem dX7_copyFrom_5 : decode cX7_copyFrom 5 = .ok (.putfield 9, 3) := by decide +kernel
theorem dX7_copyFrom_8 : decode cX7_copyFrom 8 = .ok (.aload_n 0, 1) := by decide +kernel
theorem dX7_copyFrom_9 : decode cX7_copyFrom 9 = .ok (.aload_n 1, 1) := by decide +kernel
theorem dX7_copyFrom_10 : decode cX7_copyFrom 10 = .ok (.getfield 15, 3) := by decide +kernel
theorem dX7_copyFrom_13 : decode cX7_copyFrom 13 = .ok (.putfield 15, 3) := by decide +kernel
theorem dX7_copyFrom_16 : decode cX7_copyFrom 16 = .ok (.aload_n 0, 1) := by decide +kernel
theorem dX7_copyFrom_17 : decode cX7_copyFrom 17 = .ok (.aload_n 1, 1) := by decide +kernel
theorem dX7_copyFrom_18 : decode cX7_copyFrom 18 = .ok (.getfield 18, 3) := by decide +kernel
theorem dX7_copyFrom_21 : decode cX7_copyFrom 21 = .ok (.putfield 18, 3) := by decide +kernel
theorem dX7_copyFrom_24 : decode cX7_copyFrom 24 = .ok (.return_, 1) := by decide +kernel
theorem dX7_shows_0 : decode cX7_shows 0 = .ok (.aload_n 0, 1) := by decide +kernel
theorem dX7_shows_1 : decode cX7_shows 1 = .ok (.getfield 9, 3) := by decide +kernel
theorem dX7_shows_4 : decode cX7_shows 4 = .ok (.iconst 1, 1) := by decide +kernel
theorem dX7_shows_5 : decode cX7_shows 5 = .ok (.if_icmp .lt 16, 3) := by decide +kernel
theorem dX7_shows_8 : decode cX7_shows 8 = .ok (.iload_n 1, 1) := by decide +kernel
theorem dX7_shows_9 : decode cX7_shows 9 = .ok (.aload_n 0, 1) := by decide +kernel
theorem dX7_shows_10 : decode cX7_shows 10 = .ok (.getfield 9, 3) := by decide +kernel
theorem dX7_shows_13 : decode cX7_shows 13 = .ok (.irem, 1) := by decide +kernel
theorem dX7_shows_14 : decode cX7_shows 14 = .ok (.ifCond .ne 7, 3) := by decide +kernel
theorem dX7_shows_17 : decode cX7_shows 17 = .ok (.iconst 1, 1) := by decide +kernel
theorem dX7_shows_18 : decode cX7_shows 18 = .ok (.goto 4, 3) := by decide +kernel
theorem dX7_shows_21 : decode cX7_shows 21 = .ok (.iconst 0, 1) := by decide +kernel
theorem dX7_shows_22 : decode cX7_shows 22 = .ok (.ireturn, 1) := by decide +kernel
theorem dX7_loadFrom_0 : decode cX7_loadFrom 0 = .ok (.iload_n 1, 1) := by decide +kernel
theorem dX7_loadFrom_1 : decode cX7_loadFrom 1 = .ok (.aload_n 0, 1) := by decide +kernel
theorem dX7_loadFrom_2 : decode cX7_loadFrom 2 = .ok (.getfield 9, 3) := by decide +kernel
theorem dX7_loadFrom_5 : decode cX7_loadFrom 5 = .ok (.iconst 2, 1) := by decide +kernel
theorem dX7_loadFrom_6 : decode cX7_loadFrom 6 = .ok (.idiv, 1) := by decide +kernel
theorem dX7_loadFrom_7 : decode cX7_loadFrom 7 = .ok (.isub, 1) := by decide +kernel
theorem dX7_loadFrom_8 : decode cX7_loadFrom 8 = .ok (.ireturn, 1) := by decide +kernel
theorem dX7_loadTo_0 : decode cX7_loadTo 0 = .ok (.iload_n 1, 1) := by decide +kernel
theorem dX7_loadTo_1 : decode cX7_loadTo 1 = .ok (.aload_n 0, 1) := by decide +kernel
theorem dX7_loadTo_2 : decode cX7_loadTo 2 = .ok (.getfield 9, 3) := by decide +kernel
theorem dX7_loadTo_5 : decode cX7_loadTo 5 = .ok (.iconst 1, 1) := by decide +kernel
theorem dX7_loadTo_6 : decode cX7_loadTo 6 = .ok (.isub, 1) := by decide +kernel
theorem dX7_loadTo_7 : decode cX7_loadTo 7 = .ok (.iconst 2, 1) := by decide +kernel
theorem dX7_loadTo_8 : decode cX7_loadTo 8 = .ok (.idiv, 1) := by decide +kernel
theorem dX7_loadTo_9 : decode cX7_loadTo 9 = .ok (.iadd, 1) := by decide +kernel
theorem dX7_loadTo_10 : decode cX7_loadTo 10 = .ok (.ireturn, 1) := by decide +kernel
set_option maxRecDepth 20000 in
theorem ggX7_leastCount_X4_heaviest : GoodIn wsX7_leastCount wsX4_heaviest := goodIn_r _ [10, 11, 12, 29, 30] (by decide +kernel) (by decide +kernel)
set_option maxRecDepth 20000 in
theorem gX7_leastCount_X4_heaviest : GoodIn wsX7_leastCount (wsV RX7 21 RX4 yX4_heaviest wsX4_heaviest) := goodIn_app (goodIn_of _ (by decide +kernel)) ggX7_leastCount_X4_heaviest
set_option maxRecDepth 20000 in
theorem ggX7_leastCount_X7_loadFrom : GoodIn wsX7_leastCount wsX7_loadFrom := goodIn_r _ [17, 18, 26, 27, 28] (by decide +kernel) (by decide +kernel)
set_option maxRecDepth 20000 in
theorem gX7_leastCount_X7_loadFrom : GoodIn wsX7_leastCount (wsV RX7 27 RX7 yX7_loadFrom wsX7_loadFrom) := goodIn_app (goodIn_of _ (by decide +kernel)) ggX7_leastCount_X7_loadFrom
set_option maxRecDepth 20000 in
theorem ggX7_leastCount_X9_quotient : GoodIn wsX7_leastCount wsX9_quotient := goodIn_r _ [21, 22, 23, 24, 25] (by decide +kernel) (by decide +kernel)
set_option maxRecDepth 20000 in
theorem gX7_leastCount_X9_quotient_n31 : GoodIn wsX7_leastCount (wsX9_quotient) := ggX7_leastCount_X9_quotient
theorem dX7_leastCount_0 : decode cX7_leastCount 0 = .ok (.aload_n 2, 1) := by decide +kernel
theorem dX7_leastCount_1 : decode cX7_leastCount 1 = .ok (.invokevirtual 21, 3) := by decide +kernel
theorem dX7_leastCount_4 : decode cX7_leastCount 4 = .ok (.istore_n 3, 1) := by decide +kernel
theorem dX7_leastCount_5 : decode cX7_leastCount 5 = .ok (.aload_n 0, 1) := by decide +kernel
theorem dX7_leastCount_6 : decode cX7_leastCount 6 = .ok (.iload_n 1, 1) := by decide +kernel
theorem dX7_leastCount_7 : decode cX7_leastCount 7 = .ok (.invokevirtual 27, 3) := by decide +kernel
theorem dX7_leastCount_10 : decode cX7_leastCount 10 = .ok (.aload_n 0, 1) := by decide +kernel
theorem dX7_leastCount_11 : decode cX7_leastCount 11 = .ok (.getfield 15, 3) := by decide +kernel
theorem dX7_leastCount_14 : decode cX7_leastCount 14 = .ok (.isub, 1) := by decide +kernel
theorem dX7_leastCount_15 : decode cX7_leastCount 15 = .ok (.istore 4, 2) := by decide +kernel
theorem dX7_leastCount_17 : decode cX7_leastCount 17 = .ok (.iconst 0, 1) := by decide +kernel
theorem dX7_leastCount_18 : decode cX7_leastCount 18 = .ok (.iload 4, 2) := by decide +kernel
theorem dX7_leastCount_20 : decode cX7_leastCount 20 = .ok (.iload_n 3, 1) := by decide +kernel
theorem dX7_leastCount_21 : decode cX7_leastCount 21 = .ok (.iadd, 1) := by decide +kernel
theorem dX7_leastCount_22 : decode cX7_leastCount 22 = .ok (.iconst 1, 1) := by decide +kernel
theorem dX7_leastCount_23 : decode cX7_leastCount 23 = .ok (.isub, 1) := by decide +kernel
theorem dX7_leastCount_24 : decode cX7_leastCount 24 = .ok (.iload_n 3, 1) := by decide +kernel
theorem dX7_leastCount_25 : decode cX7_leastCount 25 = .ok (.invokestatic 31, 3) := by decide +kernel
theorem dX7_leastCount_28 : decode cX7_leastCount 28 = .ok (.invokestatic 35, 3) := by decide +kernel
theorem dX7_leastCount_31 : decode cX7_leastCount 31 = .ok (.ireturn, 1) := by decide +kernel
set_option maxRecDepth 20000 in
theorem ggX7_greatestCount_X7_shows : GoodIn wsX7_greatestCount wsX7_shows := goodIn_r _ [6, 7, 26, 27, 28] (by decide +kernel) (by decide +kernel)
set_option maxRecDepth 20000 in
theorem gX7_greatestCount_X7_shows : GoodIn wsX7_greatestCount (wsV RX7 40 RX7 yX7_shows wsX7_shows) := goodIn_app (goodIn_of _ (by decide +kernel)) ggX7_greatestCount_X7_shows
set_option maxRecDepth 20000 in
theorem ggX7_greatestCount_X7_loadTo : GoodIn wsX7_greatestCount wsX7_loadTo := goodIn_r _ [11, 7, 26, 27, 28] (by decide +kernel) (by decide +kernel)
set_option maxRecDepth 20000 in
theorem gX7_greatestCount_X7_loadTo : GoodIn wsX7_greatestCount (wsV RX7 44 RX7 yX7_loadTo wsX7_loadTo) := goodIn_app (goodIn_of _ (by decide +kernel)) ggX7_greatestCount_X7_loadTo
set_option maxRecDepth 20000 in
theorem ggX7_greatestCount_X4_lightest : GoodIn wsX7_greatestCount wsX4_lightest := goodIn_r _ [16, 17, 18, 29, 30] (by decide +kernel) (by decide +kernel)
set_option maxRecDepth 20000 in
theorem gX7_greatestCount_X4_lightest : GoodIn wsX7_greatestCount (wsV RX7 47 RX4 yX4_lightest wsX4_lightest) := goodIn_app (goodIn_of _ (by decide +kernel)) ggX7_greatestCount_X4_lightest
set_option maxRecDepth 20000 in
theorem ggX7_greatestCount_X9_quotient : GoodIn wsX7_greatestCount wsX9_quotient := goodIn_r _ [21, 22, 23, 24, 25] (by decide +kernel) (by decide +kernel)
set_option maxRecDepth 20000 in
theorem gX7_greatestCount_X9_quotient_n31 : GoodIn wsX7_greatestCount (wsX9_quotient) := ggX7_greatestCount_X9_quotient
theorem dX7_greatestCount_0 : decode cX7_greatestCount 0 = .ok (.aload_n 0, 1) := by decide +kernel
theorem dX7_greatestCount_1 : decode cX7_greatestCount 1 = .ok (.iload_n 1, 1) := by decide +kernel
theorem dX7_greatestCount_2 : decode cX7_greatestCount 2 = .ok (.invokevirtual 40, 3) := by decide +kernel
theorem dX7_greatestCount_5 : decode cX7_greatestCount 5 = .ok (.ifCond .ne 5, 3) := by decide +kernel
theorem dX7_greatestCount_8 : decode cX7_greatestCount 8 = .ok (.iconst (-1), 1) := by decide +kernel
theorem dX7_greatestCount_9 : decode cX7_greatestCount 9 = .ok (.ireturn, 1) := by decide +kernel
theorem dX7_greatestCount_10 : decode cX7_greatestCount 10 = .ok (.aload_n 0, 1) := by decide +kernel
theorem dX7_greatestCount_11 : decode cX7_greatestCount 11 = .ok (.iload_n 1, 1) := by decide +kernel
theorem dX7_greatestCount_12 : decode cX7_greatestCount 12 = .ok (.invokevirtual 44, 3) := by decide +kernel
theorem dX7_greatestCount_15 : decode cX7_greatestCount 15 = .ok (.aload_n 0, 1) := by decide +kernel
theorem dX7_greatestCount_16 : decode cX7_greatestCount 16 = .ok (.getfield 15, 3) := by decide +kernel
theorem dX7_greatestCount_19 : decode cX7_greatestCount 19 = .ok (.iadd, 1) := by decide +kernel
theorem dX7_greatestCount_20 : decode cX7_greatestCount 20 = .ok (.aload_n 2, 1) := by decide +kernel
theorem dX7_greatestCount_21 : decode cX7_greatestCount 21 = .ok (.invokevirtual 47, 3) := by decide +kernel
theorem dX7_greatestCount_24 : decode cX7_greatestCount 24 = .ok (.invokestatic 31, 3) := by decide +kernel
theorem dX7_greatestCount_27 : decode cX7_greatestCount 27 = .ok (.ireturn, 1) := by decide +kernel
set_option maxRecDepth 20000 in
theorem ggX7_guessFrom_X7_leastCount : GoodIn wsX7_guessFrom wsX7_leastCount := goodIn_r _ [14, 15, 7, 8, 5, 9, 16, 17, 18, 19, 20, 21, 22, 23, 24, 25, 13, 26, 27, 28, 29, 30, 31, 32, 33, 34, 57, 58, 59, 55, 56] (by decide +kernel) (by decide +kernel)
set_option maxRecDepth 20000 in
theorem gX7_guessFrom_X7_leastCount : GoodIn wsX7_guessFrom (wsV RX7 50 RX7 yX7_leastCount wsX7_leastCount) := goodIn_app (goodIn_of _ (by decide +kernel)) ggX7_guessFrom_X7_leastCount
set_option maxRecDepth 20000 in
theorem ggX7_guessFrom_X7_greatestCount : GoodIn wsX7_guessFrom wsX7_greatestCount := goodIn_r _ [38, 15, 39, 40, 41, 13, 42, 27, 43, 44, 45, 46, 47, 48, 49, 19, 50, 21, 22, 28, 29, 30, 31, 32, 33, 34, 57, 58, 59, 55, 56] (by decide +kernel) (by decide +kernel)
set_option maxRecDepth 20000 in
theorem gX7_guessFrom_X7_greatestCount : GoodIn wsX7_guessFrom (wsV RX7 54 RX7 yX7_greatestCount wsX7_greatestCount) := goodIn_app (goodIn_of _ (by decide +kernel)) ggX7_guessFrom_X7_greatestCount
set_option maxRecDepth 20000 in
theorem ggX7_guessFrom_X7_nearestCount : GoodIn wsX7_guessFrom wsX7_nearestCount := goodIn_r _ [54, 28, 29, 30, 31, 32, 33, 34] (by decide +kernel) (by decide +kernel)
set_option maxRecDepth 20000 in
theorem gX7_guessFrom_X7_nearestCount : GoodIn wsX7_guessFrom (wsV RX7 61 RX7 yX7_nearestCount wsX7_nearestCount) := goodIn_app (goodIn_of _ (by decide +kernel)) ggX7_guessFrom_X7_nearestCount
theorem dX7_guessFrom_0 : decode cX7_guessFrom 0 = .ok (.aload_n 0, 1) := by decide +kernel
theorem dX7_guessFrom_1 : decode cX7_guessFrom 1 = .ok (.iload_n 1, 1) := by decide +kernel
theorem dX7_guessFrom_2 : decode cX7_guessFrom 2 = .ok (.aload_n 2, 1) := by decide +kernel
theorem dX7_guessFrom_3 : decode cX7_guessFrom 3 = .ok (.invokevirtual 50, 3) := by decide +kernel
theorem dX7_guessFrom_6 : decode cX7_guessFrom 6 = .ok (.istore 4, 2) := by decide +kernel
theorem dX7_guessFrom_8 : decode cX7_guessFrom 8 = .ok (.aload_n 0, 1) := by decide +kernel
theorem dX7_guessFrom_9 : decode cX7_guessFrom 9 = .ok (.iload_n 1, 1) := by decide +kernel
theorem dX7_guessFrom_10 : decode cX7_guessFrom 10 = .ok (.aload_n 2, 1) := by decide +kernel
theorem dX7_guessFrom_11 : decode cX7_guessFrom 11 = .ok (.invokevirtual 54, 3) := by decide +kernel
theorem dX7_guessFrom_14 : decode cX7_guessFrom 14 = .ok (.istore 5, 2) := by decide +kernel
theorem dX7_guessFrom_16 : decode cX7_guessFrom 16 = .ok (.iload 4, 2) := by decide +kernel
theorem dX7_guessFrom_18 : decode cX7_guessFrom 18 = .ok (.iload 5, 2) := by decide +kernel
theorem dX7_guessFrom_20 : decode cX7_guessFrom 20 = .ok (.if_icmp .le 6, 3) := by decide +kernel
theorem dX7_guessFrom_23 : decode cX7_guessFrom 23 = .ok (.ldc 57, 2) := by decide +kernel
theorem dX7_guessFrom_25 : decode cX7_guessFrom 25 = .ok (.ireturn, 1) := by decide +kernel
theorem dX7_guessFrom_26 : decode cX7_guessFrom 26 = .ok (.iload_n 3, 1) := by decide +kernel
theorem dX7_guessFrom_27 : decode cX7_guessFrom 27 = .ok (.tableswitch 39 1 3 #[25, 28, 31], 25) := by decide +kernel
theorem dX7_guessFrom_52 : decode cX7_guessFrom 52 = .ok (.iload 4, 2) := by decide +kernel
theorem dX7_guessFrom_54 : decode cX7_guessFrom 54 = .ok (.ireturn, 1) := by decide +kernel
theorem dX7_guessFrom_55 : decode cX7_guessFrom 55 = .ok (.iload 5, 2) := by decide +kernel
theorem dX7_guessFrom_57 : decode cX7_guessFrom 57 = .ok (.ireturn, 1) := by decide +kernel
theorem dX7_guessFrom_58 : decode cX7_guessFrom 58 = .ok (.iload 4, 2) := by decide +kernel
theorem dX7_guessFrom_60 : decode cX7_guessFrom 60 = .ok (.iload 5, 2) := by decide +kernel
theorem dX7_guessFrom_62 : decode cX7_guessFrom 62 = .ok (.iadd, 1) := by decide +kernel
theorem dX7_guessFrom_63 : decode cX7_guessFrom 63 = .ok (.iconst 2, 1) := by decide +kernel
theorem dX7_guessFrom_64 : decode cX7_guessFrom 64 = .ok (.idiv, 1) := by decide +kernel
theorem dX7_guessFrom_65 : decode cX7_guessFrom 65 = .ok (.ireturn, 1) := by decide +kernel
theorem dX7_guessFrom_66 : decode cX7_guessFrom 66 = .ok (.iload 4, 2) := by decide +kernel
theorem dX7_guessFrom_68 : decode cX7_guessFrom 68 = .ok (.iload 5, 2) := by decide +kernel
theorem dX7_guessFrom_70 : decode cX7_guessFrom 70 = .ok (.aload_n 0, 1) := by decide +kernel
theorem dX7_guessFrom_71 : decode cX7_guessFrom 71 = .ok (.iload_n 1, 1) := by decide +kernel
theorem dX7_guessFrom_72 : decode cX7_guessFrom 72 = .ok (.aload_n 2, 1) := by decide +kernel
theorem dX7_guessFrom_73 : decode cX7_guessFrom 73 = .ok (.getfield 58, 3) := by decide +kernel
theorem dX7_guessFrom_76 : decode cX7_guessFrom 76 = .ok (.invokevirtual 61, 3) := by decide +kernel
theorem dX7_guessFrom_79 : decode cX7_guessFrom 79 = .ok (.invokestatic 64, 3) := by decide +kernel
theorem dX7_guessFrom_82 : decode cX7_guessFrom 82 = .ok (.invokestatic 35, 3) := by decide +kernel
theorem dX7_guessFrom_85 : decode cX7_guessFrom 85 = .ok (.ireturn, 1) := by decide +kernel
set_option maxRecDepth 20000 in
theorem ggX7_nearestCount_X9_quotient : GoodIn wsX7_nearestCount wsX9_quotient := goodIn_r _ [3, 4, 5, 6, 7] (by decide +kernel) (by decide +kernel)
set_option maxRecDepth 20000 in
theorem gX7_nearestCount_X9_quotient_n31 : GoodIn wsX7_nearestCount (wsX9_quotient) := ggX7_nearestCount_X9_quotient
theorem dX7_nearestCount_0 : decode cX7_nearestCount 0 = .ok (.iload_n 1, 1) := by decide +kernel
theorem dX7_nearestCount_1 : decode cX7_nearestCount 1 = .ok (.iload_n 2, 1) := by decide +kernel
theorem dX7_nearestCount_2 : decode cX7_nearestCount 2 = .ok (.invokestatic 31, 3) := by decide +kernel
theorem dX7_nearestCount_5 : decode cX7_nearestCount 5 = .ok (.istore_n 3, 1) := by decide +kernel
theorem dX7_nearestCount_6 : decode cX7_nearestCount 6 = .ok (.iload_n 1, 1) := by decide +kernel
theorem dX7_nearestCount_7 : decode cX7_nearestCount 7 = .ok (.iload_n 3, 1) := by decide +kernel
theorem dX7_nearestCount_8 : decode cX7_nearestCount 8 = .ok (.iload_n 2, 1) := by decide +kernel
theorem dX7_nearestCount_9 : decode cX7_nearestCount 9 = .ok (.imul, 1) := by decide +kernel
theorem dX7_nearestCount_10 : decode cX7_nearestCount 10 = .ok (.isub, 1) := by decide +kernel
theorem dX7_nearestCount_11 : decode cX7_nearestCount 11 = .ok (.istore 4, 2) := by decide +kernel
theorem dX7_nearestCount_13 : decode cX7_nearestCount 13 = .ok (.iload 4, 2) := by decide +kernel
theorem dX7_nearestCount_15 : decode cX7_nearestCount 15 = .ok (.iload_n 2, 1) := by decide +kernel
theorem dX7_nearestCount_16 : decode cX7_nearestCount 16 = .ok (.iload 4, 2) := by decide +kernel
theorem dX7_nearestCount_18 : decode cX7_nearestCount 18 = .ok (.isub, 1) := by decide +kernel
theorem dX7_nearestCount_19 : decode cX7_nearestCount 19 = .ok (.if_icmp .gt 7, 3) := by decide +kernel
theorem dX7_nearestCount_22 : decode cX7_nearestCount 22 = .ok (.iload_n 3, 1) := by decide +kernel
theorem dX7_nearestCount_23 : decode cX7_nearestCount 23 = .ok (.goto 6, 3) := by decide +kernel
theorem dX7_nearestCount_26 : decode cX7_nearestCount 26 = .ok (.iload_n 3, 1) := by decide +kernel
theorem dX7_nearestCount_27 : decode cX7_nearestCount 27 = .ok (.iconst 1, 1) := by decide +kernel
theorem dX7_nearestCount_28 : decode cX7_nearestCount 28 = .ok (.iadd, 1) := by decide +kernel
theorem dX7_nearestCount_29 : decode cX7_nearestCount 29 = .ok (.ireturn, 1) := by decide +kernel
set_option maxRecDepth 20000 in
theorem ggX7_apartFromNext_X4_heaviest : GoodIn wsX7_apartFromNext wsX4_heaviest := goodIn_r _ [6, 7, 8, 30, 31] (by decide +kernel) (by decide +kernel)
set_option maxRecDepth 20000 in
theorem gX7_apartFromNext_X4_heaviest : GoodIn wsX7_apartFromNext (wsV RX7 21 RX4 yX4_heaviest wsX4_heaviest) := goodIn_app (goodIn_of _ (by decide +kernel)) ggX7_apartFromNext_X4_heaviest
set_option maxRecDepth 20000 in
theorem ggX7_apartFromNext_X9_readingAt : GoodIn wsX7_apartFromNext wsX9_readingAt := goodIn_r _ [11, 12, 13, 14, 15, 16, 17, 10, 18, 19, 20, 21, 22] (by decide +kernel) (by decide +kernel)
set_option maxRecDepth 20000 in
theorem gX7_apartFromNext_X9_readingAt_n67 : GoodIn wsX7_apartFromNext (wsX9_readingAt) := ggX7_apartFromNext_X9_readingAt
set_option maxRecDepth 20000 in
theorem ggX7_apartFromNext_X4_lightest : GoodIn wsX7_apartFromNext wsX4_lightest := goodIn_r _ [26, 7, 8, 30, 31] (by decide +kernel) (by decide +kernel)
set_option maxRecDepth 20000 in
theorem gX7_apartFromNext_X4_lightest : GoodIn wsX7_apartFromNext (wsV RX7 47 RX4 yX4_lightest wsX4_lightest) := goodIn_app (goodIn_of _ (by decide +kernel)) ggX7_apartFromNext_X4_lightest
theorem dX7_apartFromNext_0 : decode cX7_apartFromNext 0 = .ok (.iload_n 1, 1) := by decide +kernel
theorem dX7_apartFromNext_1 : decode cX7_apartFromNext 1 = .ok (.iload_n 3, 1) := by decide +kernel
theorem dX7_apartFromNext_2 : decode cX7_apartFromNext 2 = .ok (.aload_n 2, 1) := by decide +kernel
theorem dX7_apartFromNext_3 : decode cX7_apartFromNext 3 = .ok (.invokevirtual 21, 3) := by decide +kernel
theorem dX7_apartFromNext_6 : decode cX7_apartFromNext 6 = .ok (.imul, 1) := by decide +kernel
theorem dX7_apartFromNext_7 : decode cX7_apartFromNext 7 = .ok (.aload_n 0, 1) := by decide +kernel
theorem dX7_apartFromNext_8 : decode cX7_apartFromNext 8 = .ok (.getfield 15, 3) := by decide +kernel
theorem dX7_apartFromNext_11 : decode cX7_apartFromNext 11 = .ok (.iadd, 1) := by decide +kernel
theorem dX7_apartFromNext_12 : decode cX7_apartFromNext 12 = .ok (.invokestatic 67, 3) := by decide +kernel
theorem dX7_apartFromNext_15 : decode cX7_apartFromNext 15 = .ok (.istore 4, 2) := by decide +kernel
theorem dX7_apartFromNext_17 : decode cX7_apartFromNext 17 = .ok (.iload_n 1, 1) := by decide +kernel
theorem dX7_apartFromNext_18 : decode cX7_apartFromNext 18 = .ok (.iload_n 3, 1) := by decide +kernel
theorem dX7_apartFromNext_19 : decode cX7_apartFromNext 19 = .ok (.iconst 1, 1) := by decide +kernel
theorem dX7_apartFromNext_20 : decode cX7_apartFromNext 20 = .ok (.iadd, 1) := by decide +kernel
theorem dX7_apartFromNext_21 : decode cX7_apartFromNext 21 = .ok (.aload_n 2, 1) := by decide +kernel
theorem dX7_apartFromNext_22 : decode cX7_apartFromNext 22 = .ok (.invokevirtual 47, 3) := by decide +kernel
theorem dX7_apartFromNext_25 : decode cX7_apartFromNext 25 = .ok (.imul, 1) := by decide +kernel
theorem dX7_apartFromNext_26 : decode cX7_apartFromNext 26 = .ok (.aload_n 0, 1) := by decide +kernel
theorem dX7_apartFromNext_27 : decode cX7_apartFromNext 27 = .ok (.getfield 15, 3) := by decide +kernel
theorem dX7_apartFromNext_30 : decode cX7_apartFromNext 30 = .ok (.isub, 1) := by decide +kernel
theorem dX7_apartFromNext_31 : decode cX7_apartFromNext 31 = .ok (.invokestatic 67, 3) := by decide +kernel
theorem dX7_apartFromNext_34 : decode cX7_apartFromNext 34 = .ok (.istore 5, 2) := by decide +kernel
theorem dX7_apartFromNext_36 : decode cX7_apartFromNext 36 = .ok (.iload 4, 2) := by decide +kernel
theorem dX7_apartFromNext_38 : decode cX7_apartFromNext 38 = .ok (.iload 5, 2) := by decide +kernel
theorem dX7_apartFromNext_40 : decode cX7_apartFromNext 40 = .ok (.if_icmp .ge 7, 3) := by decide +kernel
theorem dX7_apartFromNext_43 : decode cX7_apartFromNext 43 = .ok (.iconst 1, 1) := by decide +kernel
theorem dX7_apartFromNext_44 : decode cX7_apartFromNext 44 = .ok (.goto 4, 3) := by decide +kernel
theorem dX7_apartFromNext_47 : decode cX7_apartFromNext 47 = .ok (.iconst 0, 1) := by decide +kernel
theorem dX7_apartFromNext_48 : decode cX7_apartFromNext 48 = .ok (.ireturn, 1) := by decide +kernel
set_option maxRecDepth 20000 in
theorem ggX7_lastApart_X7_apartFromNext : GoodIn wsX7_lastApart wsX7_apartFromNext := goodIn_r _ [6, 7, 8, 9, 10, 11, 12, 13, 14, 15, 16, 17, 18, 19, 20, 21, 22, 23, 24, 25, 26, 27, 28, 29, 30, 31, 32, 33, 34, 35, 36, 37] (by decide +kernel) (by decide +kernel)
set_option maxRecDepth 20000 in
theorem gX7_lastApart_X7_apartFromNext : GoodIn wsX7_lastApart (wsV RX7 70 RX7 yX7_apartFromNext wsX7_apartFromNext) := goodIn_app (goodIn_of _ (by decide +kernel)) ggX7_lastApart_X7_apartFromNext
theorem dX7_lastApart_0 : decode cX7_lastApart 0 = .ok (.iconst 0, 1) := by decide +kernel
theorem dX7_lastApart_1 : decode cX7_lastApart 1 = .ok (.istore_n 2, 1) := by decide +kernel
theorem dX7_lastApart_2 : decode cX7_lastApart 2 = .ok (.iload_n 2, 1) := by decide +kernel
theorem dX7_lastApart_3 : decode cX7_lastApart 3 = .ok (.sipush 999, 3) := by decide +kernel
theorem dX7_lastApart_6 : decode cX7_lastApart 6 = .ok (.if_icmp .ge 24, 3) := by decide +kernel
theorem dX7_lastApart_9 : decode cX7_lastApart 9 = .ok (.aload_n 0, 1) := by decide +kernel
theorem dX7_lastApart_10 : decode cX7_lastApart 10 = .ok (.aload_n 0, 1) := by decide +kernel
theorem dX7_lastApart_11 : decode cX7_lastApart 11 = .ok (.getfield 9, 3) := by decide +kernel
theorem dX7_lastApart_14 : decode cX7_lastApart 14 = .ok (.aload_n 1, 1) := by decide +kernel
theorem dX7_lastApart_15 : decode cX7_lastApart 15 = .ok (.iload_n 2, 1) := by decide +kernel
theorem dX7_lastApart_16 : decode cX7_lastApart 16 = .ok (.invokevirtual 70, 3) := by decide +kernel
theorem dX7_lastApart_19 : decode cX7_lastApart 19 = .ok (.ifCond .ne 5, 3) := by decide +kernel
theorem dX7_lastApart_22 : decode cX7_lastApart 22 = .ok (.iload_n 2, 1) := by decide +kernel
theorem dX7_lastApart_23 : decode cX7_lastApart 23 = .ok (.ireturn, 1) := by decide +kernel
theorem dX7_lastApart_24 : decode cX7_lastApart 24 = .ok (.iinc 2 1, 3) := by decide +kernel
theorem dX7_lastApart_27 : decode cX7_lastApart 27 = .ok (.goto (-25), 3) := by decide +kernel
theorem dX7_lastApart_30 : decode cX7_lastApart 30 = .ok (.sipush 999, 3) := by decide +kernel
theorem dX7_lastApart_33 : decode cX7_lastApart 33 = .ok (.ireturn, 1) := by decide +kernel
set_option maxRecDepth 20000 in
theorem ggX7_greatestStep_X7_allApart : GoodIn wsX7_greatestStep wsX7_allApart := goodIn_r _ [6, 7, 8, 9, 5, 10, 11, 12, 13, 14, 15, 16, 17, 18, 19, 20, 21, 22, 23, 24, 25, 26, 27, 28, 29, 30, 31, 32, 33, 34, 35, 36, 37, 38, 39, 40, 41] (by decide +kernel) (by decide +kernel)
set_option maxRecDepth 20000 in
theorem gX7_greatestStep_X7_allApart : GoodIn wsX7_greatestStep (wsV RX7 74 RX7 yX7_allApart wsX7_allApart) := goodIn_app (goodIn_of _ (by decide +kernel)) ggX7_greatestStep_X7_allApart
theorem dX7_greatestStep_0 : decode cX7_greatestStep 0 = .ok (.sipush 1000, 3) := by decide +kernel
theorem dX7_greatestStep_3 : decode cX7_greatestStep 3 = .ok (.istore_n 3, 1) := by decide +kernel
theorem dX7_greatestStep_4 : decode cX7_greatestStep 4 = .ok (.iload_n 3, 1) := by decide +kernel
theorem dX7_greatestStep_5 : decode cX7_greatestStep 5 = .ok (.iconst 1, 1) := by decide +kernel
theorem dX7_greatestStep_6 : decode cX7_greatestStep 6 = .ok (.if_icmp .lt 21, 3) := by decide +kernel
theorem dX7_greatestStep_9 : decode cX7_greatestStep 9 = .ok (.aload_n 0, 1) := by decide +kernel
theorem dX7_greatestStep_10 : decode cX7_greatestStep 10 = .ok (.iload_n 3, 1) := by decide +kernel
theorem dX7_greatestStep_11 : decode cX7_greatestStep 11 = .ok (.aload_n 1, 1) := by decide +kernel
theorem dX7_greatestStep_12 : decode cX7_greatestStep 12 = .ok (.iload_n 2, 1) := by decide +kernel
theorem dX7_greatestStep_13 : decode cX7_greatestStep 13 = .ok (.invokevirtual 74, 3) := by decide +kernel
theorem dX7_greatestStep_16 : decode cX7_greatestStep 16 = .ok (.ifCond .eq 5, 3) := by decide +kernel
theorem dX7_greatestStep_19 : decode cX7_greatestStep 19 = .ok (.iload_n 3, 1) := by decide +kernel
theorem dX7_greatestStep_20 : decode cX7_greatestStep 20 = .ok (.ireturn, 1) := by decide +kernel
theorem dX7_greatestStep_21 : decode cX7_greatestStep 21 = .ok (.iinc 3 (-1), 3) := by decide +kernel
theorem dX7_greatestStep_24 : decode cX7_greatestStep 24 = .ok (.goto (-20), 3) := by decide +kernel
theorem dX7_greatestStep_27 : decode cX7_greatestStep 27 = .ok (.ldc 57, 2) := by decide +kernel
theorem dX7_greatestStep_29 : decode cX7_greatestStep 29 = .ok (.ireturn, 1) := by decide +kernel
set_option maxRecDepth 20000 in
theorem ggX7_allApart_X7_apartFromNext : GoodIn wsX7_allApart wsX7_apartFromNext := goodIn_r _ [5, 6, 7, 8, 9, 10, 11, 12, 13, 14, 15, 16, 17, 18, 19, 20, 21, 22, 23, 24, 25, 26, 27, 28, 29, 30, 31, 32, 33, 34, 35, 36] (by decide +kernel) (by decide +kernel)
set_option maxRecDepth 20000 in
theorem gX7_allApart_X7_apartFromNext : GoodIn wsX7_allApart (wsV RX7 70 RX7 yX7_apartFromNext wsX7_apartFromNext) := goodIn_app (goodIn_of _ (by decide +kernel)) ggX7_allApart_X7_apartFromNext
theorem dX7_allApart_0 : decode cX7_allApart 0 = .ok (.iload_n 3, 1) := by decide +kernel
theorem dX7_allApart_1 : decode cX7_allApart 1 = .ok (.iconst 1, 1) := by decide +kernel
theorem dX7_allApart_2 : decode cX7_allApart 2 = .ok (.isub, 1) := by decide +kernel
theorem dX7_allApart_3 : decode cX7_allApart 3 = .ok (.istore 4, 2) := by decide +kernel
theorem dX7_allApart_5 : decode cX7_allApart 5 = .ok (.iload 4, 2) := by decide +kernel
theorem dX7_allApart_7 : decode cX7_allApart 7 = .ok (.ifCond .lt 22, 3) := by decide +kernel
theorem dX7_allApart_10 : decode cX7_allApart 10 = .ok (.aload_n 0, 1) := by decide +kernel
theorem dX7_allApart_11 : decode cX7_allApart 11 = .ok (.iload_n 1, 1) := by decide +kernel
theorem dX7_allApart_12 : decode cX7_allApart 12 = .ok (.aload_n 2, 1) := by decide +kernel
theorem dX7_allApart_13 : decode cX7_allApart 13 = .ok (.iload 4, 2) := by decide +kernel
theorem dX7_allApart_15 : decode cX7_allApart 15 = .ok (.invokevirtual 70, 3) := by decide +kernel
theorem dX7_allApart_18 : decode cX7_allApart 18 = .ok (.ifCond .ne 5, 3) := by decide +kernel
theorem dX7_allApart_21 : decode cX7_allApart 21 = .ok (.iconst 0, 1) := by decide +kernel
theorem dX7_allApart_22 : decode cX7_allApart 22 = .ok (.ireturn, 1) := by decide +kernel
theorem dX7_allApart_23 : decode cX7_allApart 23 = .ok (.iinc 4 (-1), 3) := by decide +kernel
theorem dX7_allApart_26 : decode cX7_allApart 26 = .ok (.goto (-21), 3) := by decide +kernel
theorem dX7_allApart_29 : decode cX7_allApart 29 = .ok (.iconst 1, 1) := by decide +kernel
theorem dX7_allApart_30 : decode cX7_allApart 30 = .ok (.ireturn, 1) := by decide +kernel
set_option maxRecDepth 20000 in
theorem ggX7_mixedPairs_X7_pairsOf : GoodIn wsX7_mixedPairs wsX7_pairsOf := goodIn_r _ [6, 7, 8, 9, 10, 5, 11, 12, 13, 14, 15, 16, 17, 18, 19, 20, 21, 22, 23, 24, 25, 26, 27, 28, 29, 30, 31, 32, 33, 34, 35, 36] (by decide +kernel) (by decide +kernel)
set_option maxRecDepth 20000 in
theorem gX7_mixedPairs_X7_pairsOf : GoodIn wsX7_mixedPairs (wsV RX7 77 RX7 yX7_pairsOf wsX7_pairsOf) := goodIn_app (goodIn_of _ (by decide +kernel)) ggX7_mixedPairs_X7_pairsOf
theorem dX7_mixedPairs_0 : decode cX7_mixedPairs 0 = .ok (.iconst 0, 1) := by decide +kernel
theorem dX7_mixedPairs_1 : decode cX7_mixedPairs 1 = .ok (.istore 5, 2) := by decide +kernel
theorem dX7_mixedPairs_3 : decode cX7_mixedPairs 3 = .ok (.ldc 57, 2) := by decide +kernel
theorem dX7_mixedPairs_5 : decode cX7_mixedPairs 5 = .ok (.istore 6, 2) := by decide +kernel
theorem dX7_mixedPairs_7 : decode cX7_mixedPairs 7 = .ok (.ldc 57, 2) := by decide +kernel
theorem dX7_mixedPairs_9 : decode cX7_mixedPairs 9 = .ok (.istore 7, 2) := by decide +kernel
theorem dX7_mixedPairs_11 : decode cX7_mixedPairs 11 = .ok (.iconst 0, 1) := by decide +kernel
theorem dX7_mixedPairs_12 : decode cX7_mixedPairs 12 = .ok (.istore 8, 2) := by decide +kernel
theorem dX7_mixedPairs_14 : decode cX7_mixedPairs 14 = .ok (.iload 8, 2) := by decide +kernel
theorem dX7_mixedPairs_16 : decode cX7_mixedPairs 16 = .ok (.bipush 60, 2) := by decide +kernel
theorem dX7_mixedPairs_18 : decode cX7_mixedPairs 18 = .ok (.if_icmp .gt 47, 3) := by decide +kernel
theorem dX7_mixedPairs_21 : decode cX7_mixedPairs 21 = .ok (.aload_n 0, 1) := by decide +kernel
theorem dX7_mixedPairs_22 : decode cX7_mixedPairs 22 = .ok (.iload 8, 2) := by decide +kernel
theorem dX7_mixedPairs_24 : decode cX7_mixedPairs 24 = .ok (.aload_n 1, 1) := by decide +kernel
theorem dX7_mixedPairs_25 : decode cX7_mixedPairs 25 = .ok (.aload_n 2, 1) := by decide +kernel
theorem dX7_mixedPairs_26 : decode cX7_mixedPairs 26 = .ok (.iload_n 3, 1) := by decide +kernel
theorem dX7_mixedPairs_27 : decode cX7_mixedPairs 27 = .ok (.invokevirtual 77, 3) := by decide +kernel
theorem dX7_mixedPairs_30 : decode cX7_mixedPairs 30 = .ok (.istore 9, 2) := by decide +kernel
theorem dX7_mixedPairs_32 : decode cX7_mixedPairs 32 = .ok (.iload 9, 2) := by decide +kernel
theorem dX7_mixedPairs_34 : decode cX7_mixedPairs 34 = .ok (.ifCond .le 25, 3) := by decide +kernel
theorem dX7_mixedPairs_37 : decode cX7_mixedPairs 37 = .ok (.iload 5, 2) := by decide +kernel
theorem dX7_mixedPairs_39 : decode cX7_mixedPairs 39 = .ok (.iload 9, 2) := by decide +kernel
theorem dX7_mixedPairs_41 : decode cX7_mixedPairs 41 = .ok (.iadd, 1) := by decide +kernel
theorem dX7_mixedPairs_42 : decode cX7_mixedPairs 42 = .ok (.istore 5, 2) := by decide +kernel
theorem dX7_mixedPairs_44 : decode cX7_mixedPairs 44 = .ok (.iload 8, 2) := by decide +kernel
theorem dX7_mixedPairs_46 : decode cX7_mixedPairs 46 = .ok (.istore 7, 2) := by decide +kernel
theorem dX7_mixedPairs_48 : decode cX7_mixedPairs 48 = .ok (.iload 6, 2) := by decide +kernel
theorem dX7_mixedPairs_50 : decode cX7_mixedPairs 50 = .ok (.ldc 57, 2) := by decide +kernel
theorem dX7_mixedPairs_52 : decode cX7_mixedPairs 52 = .ok (.if_icmp .ne 7, 3) := by decide +kernel
theorem dX7_mixedPairs_55 : decode cX7_mixedPairs 55 = .ok (.iload 8, 2) := by decide +kernel
theorem dX7_mixedPairs_57 : decode cX7_mixedPairs 57 = .ok (.istore 6, 2) := by decide +kernel
theorem dX7_mixedPairs_59 : decode cX7_mixedPairs 59 = .ok (.iinc 8 1, 3) := by decide +kernel
theorem dX7_mixedPairs_62 : decode cX7_mixedPairs 62 = .ok (.goto (-48), 3) := by decide +kernel
theorem dX7_mixedPairs_65 : decode cX7_mixedPairs 65 = .ok (.iload 4, 2) := by decide +kernel
theorem dX7_mixedPairs_67 : decode cX7_mixedPairs 67 = .ok (.lookupswitch 31 #[(0, 25), (1, 28)], 25) := by decide +kernel
theorem dX7_mixedPairs_92 : decode cX7_mixedPairs 92 = .ok (.iload 5, 2) := by decide +kernel
theorem dX7_mixedPairs_94 : decode cX7_mixedPairs 94 = .ok (.ireturn, 1) := by decide +kernel
theorem dX7_mixedPairs_95 : decode cX7_mixedPairs 95 = .ok (.iload 6, 2) := by decide +kernel
theorem dX7_mixedPairs_97 : decode cX7_mixedPairs 97 = .ok (.ireturn, 1) := by decide +kernel
theorem dX7_mixedPairs_98 : decode cX7_mixedPairs 98 = .ok (.iload 7, 2) := by decide +kernel
theorem dX7_mixedPairs_100 : decode cX7_mixedPairs 100 = .ok (.ireturn, 1) := by decide +kernel
set_option maxRecDepth 20000 in
theorem ggX7_pairsOf_X7_shows : GoodIn wsX7_pairsOf wsX7_shows := goodIn_r _ [6, 7, 27, 28, 29] (by decide +kernel) (by decide +kernel)
set_option maxRecDepth 20000 in
theorem gX7_pairsOf_X7_shows : GoodIn wsX7_pairsOf (wsV RX7 40 RX7 yX7_shows wsX7_shows) := goodIn_app (goodIn_of _ (by decide +kernel)) ggX7_pairsOf_X7_shows
set_option maxRecDepth 20000 in
theorem ggX7_pairsOf_X4_lightest : GoodIn wsX7_pairsOf wsX4_lightest := goodIn_r _ [12, 13, 14, 30, 31] (by decide +kernel) (by decide +kernel)
set_option maxRecDepth 20000 in
theorem gX7_pairsOf_X4_lightest : GoodIn wsX7_pairsOf (wsV RX7 47 RX4 yX4_lightest wsX4_lightest) := goodIn_app (goodIn_of _ (by decide +kernel)) ggX7_pairsOf_X4_lightest
set_option maxRecDepth 20000 in
theorem ggX7_pairsOf_X4_heaviest : GoodIn wsX7_pairsOf wsX4_heaviest := goodIn_r _ [18, 13, 14, 30, 31] (by decide +kernel) (by decide +kernel)
set_option maxRecDepth 20000 in
theorem gX7_pairsOf_X4_heaviest : GoodIn wsX7_pairsOf (wsV RX7 21 RX4 yX4_heaviest wsX4_heaviest) := goodIn_app (goodIn_of _ (by decide +kernel)) ggX7_pairsOf_X4_heaviest
set_option maxRecDepth 20000 in
theorem ggX7_pairsOf_X7_loadTo : GoodIn wsX7_pairsOf wsX7_loadTo := goodIn_r _ [22, 7, 27, 28, 29] (by decide +kernel) (by decide +kernel)
set_option maxRecDepth 20000 in
theorem gX7_pairsOf_X7_loadTo : GoodIn wsX7_pairsOf (wsV RX7 44 RX7 yX7_loadTo wsX7_loadTo) := goodIn_app (goodIn_of _ (by decide +kernel)) ggX7_pairsOf_X7_loadTo
set_option maxRecDepth 20000 in
theorem ggX7_pairsOf_X7_loadFrom : GoodIn wsX7_pairsOf wsX7_loadFrom := goodIn_r _ [26, 7, 27, 28, 29] (by decide +kernel) (by decide +kernel)
set_option maxRecDepth 20000 in
theorem gX7_pairsOf_X7_loadFrom : GoodIn wsX7_pairsOf (wsV RX7 27 RX7 yX7_loadFrom wsX7_loadFrom) := goodIn_app (goodIn_of _ (by decide +kernel)) ggX7_pairsOf_X7_loadFrom
theorem dX7_pairsOf_0 : decode cX7_pairsOf 0 = .ok (.aload_n 0, 1) := by decide +kernel
theorem dX7_pairsOf_1 : decode cX7_pairsOf 1 = .ok (.iload 4, 2) := by decide +kernel
theorem dX7_pairsOf_3 : decode cX7_pairsOf 3 = .ok (.invokevirtual 40, 3) := by decide +kernel
theorem dX7_pairsOf_6 : decode cX7_pairsOf 6 = .ok (.ifCond .ne 5, 3) := by decide +kernel
theorem dX7_pairsOf_9 : decode cX7_pairsOf 9 = .ok (.iconst 0, 1) := by decide +kernel
theorem dX7_pairsOf_10 : decode cX7_pairsOf 10 = .ok (.ireturn, 1) := by decide +kernel
theorem dX7_pairsOf_11 : decode cX7_pairsOf 11 = .ok (.iconst 0, 1) := by decide +kernel
theorem dX7_pairsOf_12 : decode cX7_pairsOf 12 = .ok (.istore 5, 2) := by decide +kernel
theorem dX7_pairsOf_14 : decode cX7_pairsOf 14 = .ok (.iconst 0, 1) := by decide +kernel
theorem dX7_pairsOf_15 : decode cX7_pairsOf 15 = .ok (.istore 6, 2) := by decide +kernel
theorem dX7_pairsOf_17 : decode cX7_pairsOf 17 = .ok (.iload 6, 2) := by decide +kernel
theorem dX7_pairsOf_19 : decode cX7_pairsOf 19 = .ok (.iload_n 1, 1) := by decide +kernel
theorem dX7_pairsOf_20 : decode cX7_pairsOf 20 = .ok (.if_icmp .gt 84, 3) := by decide +kernel
theorem dX7_pairsOf_23 : decode cX7_pairsOf 23 = .ok (.iload_n 1, 1) := by decide +kernel
theorem dX7_pairsOf_24 : decode cX7_pairsOf 24 = .ok (.iload 6, 2) := by decide +kernel
theorem dX7_pairsOf_26 : decode cX7_pairsOf 26 = .ok (.isub, 1) := by decide +kernel
theorem dX7_pairsOf_27 : decode cX7_pairsOf 27 = .ok (.istore 7, 2) := by decide +kernel
theorem dX7_pairsOf_29 : decode cX7_pairsOf 29 = .ok (.iload 6, 2) := by decide +kernel
theorem dX7_pairsOf_31 : decode cX7_pairsOf 31 = .ok (.aload_n 2, 1) := by decide +kernel
theorem dX7_pairsOf_32 : decode cX7_pairsOf 32 = .ok (.invokevirtual 47, 3) := by decide +kernel
theorem dX7_pairsOf_35 : decode cX7_pairsOf 35 = .ok (.imul, 1) := by decide +kernel
theorem dX7_pairsOf_36 : decode cX7_pairsOf 36 = .ok (.iload 7, 2) := by decide +kernel
theorem dX7_pairsOf_38 : decode cX7_pairsOf 38 = .ok (.aload_n 3, 1) := by decide +kernel
theorem dX7_pairsOf_39 : decode cX7_pairsOf 39 = .ok (.invokevirtual 47, 3) := by decide +kernel
theorem dX7_pairsOf_42 : decode cX7_pairsOf 42 = .ok (.imul, 1) := by decide +kernel
theorem dX7_pairsOf_43 : decode cX7_pairsOf 43 = .ok (.iadd, 1) := by decide +kernel
theorem dX7_pairsOf_44 : decode cX7_pairsOf 44 = .ok (.aload_n 0, 1) := by decide +kernel
theorem dX7_pairsOf_45 : decode cX7_pairsOf 45 = .ok (.getfield 15, 3) := by decide +kernel
theorem dX7_pairsOf_48 : decode cX7_pairsOf 48 = .ok (.isub, 1) := by decide +kernel
theorem dX7_pairsOf_49 : decode cX7_pairsOf 49 = .ok (.istore 8, 2) := by decide +kernel
theorem dX7_pairsOf_51 : decode cX7_pairsOf 51 = .ok (.iload 6, 2) := by decide +kernel
theorem dX7_pairsOf_53 : decode cX7_pairsOf 53 = .ok (.aload_n 2, 1) := by decide +kernel
theorem dX7_pairsOf_54 : decode cX7_pairsOf 54 = .ok (.invokevirtual 21, 3) := by decide +kernel
theorem dX7_pairsOf_57 : decode cX7_pairsOf 57 = .ok (.imul, 1) := by decide +kernel
theorem dX7_pairsOf_58 : decode cX7_pairsOf 58 = .ok (.iload 7, 2) := by decide +kernel
theorem dX7_pairsOf_60 : decode cX7_pairsOf 60 = .ok (.aload_n 3, 1) := by decide +kernel
theorem dX7_pairsOf_61 : decode cX7_pairsOf 61 = .ok (.invokevirtual 21, 3) := by decide +kernel
theorem dX7_pairsOf_64 : decode cX7_pairsOf 64 = .ok (.imul, 1) := by decide +kernel
theorem dX7_pairsOf_65 : decode cX7_pairsOf 65 = .ok (.iadd, 1) := by decide +kernel
theorem dX7_pairsOf_66 : decode cX7_pairsOf 66 = .ok (.aload_n 0, 1) := by decide +kernel
theorem dX7_pairsOf_67 : decode cX7_pairsOf 67 = .ok (.getfield 15, 3) := by decide +kernel
theorem dX7_pairsOf_70 : decode cX7_pairsOf 70 = .ok (.iadd, 1) := by decide +kernel
theorem dX7_pairsOf_71 : decode cX7_pairsOf 71 = .ok (.istore 9, 2) := by decide +kernel
theorem dX7_pairsOf_73 : decode cX7_pairsOf 73 = .ok (.iload 8, 2) := by decide +kernel
theorem dX7_pairsOf_75 : decode cX7_pairsOf 75 = .ok (.aload_n 0, 1) := by decide +kernel
theorem dX7_pairsOf_76 : decode cX7_pairsOf 76 = .ok (.iload 4, 2) := by decide +kernel
theorem dX7_pairsOf_78 : decode cX7_pairsOf 78 = .ok (.invokevirtual 44, 3) := by decide +kernel
theorem dX7_pairsOf_81 : decode cX7_pairsOf 81 = .ok (.if_icmp .gt 17, 3) := by decide +kernel
theorem dX7_pairsOf_84 : decode cX7_pairsOf 84 = .ok (.iload 9, 2) := by decide +kernel
theorem dX7_pairsOf_86 : decode cX7_pairsOf 86 = .ok (.aload_n 0, 1) := by decide +kernel
theorem dX7_pairsOf_87 : decode cX7_pairsOf 87 = .ok (.iload 4, 2) := by decide +kernel
theorem dX7_pairsOf_89 : decode cX7_pairsOf 89 = .ok (.invokevirtual 27, 3) := by decide +kernel
theorem dX7_pairsOf_92 : decode cX7_pairsOf 92 = .ok (.if_icmp .lt 6, 3) := by decide +kernel
theorem dX7_pairsOf_95 : decode cX7_pairsOf 95 = .ok (.iinc 5 1, 3) := by decide +kernel
theorem dX7_pairsOf_98 : decode cX7_pairsOf 98 = .ok (.iinc 6 1, 3) := by decide +kernel
theorem dX7_pairsOf_101 : decode cX7_pairsOf 101 = .ok (.goto (-84), 3) := by decide +kernel
theorem dX7_pairsOf_104 : decode cX7_pairsOf 104 = .ok (.iload 5, 2) := by decide +kernel
theorem dX7_pairsOf_106 : decode cX7_pairsOf 106 = .ok (.ireturn, 1) := by decide +kernel
set_option maxRecDepth 20000 in
theorem ggX8_init_X0_init : GoodIn wsX8_init wsX0_init := goodIn_r _ [13, 14, 2, 3, 15, 16, 17, 18, 19, 20, 21, 22, 23, 24, 25, 26, 27, 28, 29, 30, 31, 32, 33, 34, 35, 36, 37, 38, 39, 40, 41, 42, 43, 44, 45, 46, 47, 48, 49, 50, 51, 52, 53, 54, 55, 56, 60, 61, 62, 63, 64, 65, 66, 67, 68, 69, 70, 71, 72, 73, 74, 75, 76, 77] (by decide +kernel) (by decide +kernel)
set_option maxRecDepth 20000 in
theorem gX8_init_X0_init : GoodIn wsX8_init (wsX0_init) := ggX8_init_X0_init
theorem dX8_init_0 : decode cX8_init 0 = .ok (.aload_n 0, 1) := by decide +kernel
theorem dX8_init_1 : decode cX8_init 1 = .ok (.invokespecial 3, 3) := by decide +kernel
theorem dX8_init_4 : decode cX8_init 4 = .ok (.aload_n 0, 1) := by decide +kernel
theorem dX8_init_5 : decode cX8_init 5 = .ok (.new 9, 3) := by decide +kernel
theorem dX8_init_8 : decode cX8_init 8 = .ok (.dup, 1) := by decide +kernel
theorem dX8_init_9 : decode cX8_init 9 = .ok (.invokespecial 11, 3) := by decide +kernel
theorem dX8_init_12 : decode cX8_init 12 = .ok (.putfield 12, 3) := by decide +kernel
theorem dX8_init_15 : decode cX8_init 15 = .ok (.aload_n 0, 1) := by decide +kernel
theorem dX8_init_16 : decode cX8_init 16 = .ok (.iconst 2, 1) := by decide +kernel
theorem dX8_init_17 : decode cX8_init 17 = .ok (.anewarray 9, 3) := by decide +kernel
theorem dX8_init_20 : decode cX8_init 20 = .ok (.putfield 18, 3) := by decide +kernel
theorem dX8_init_23 : decode cX8_init 23 = .ok (.aload_n 0, 1) := by decide +kernel
theorem dX8_init_24 : decode cX8_init 24 = .ok (.iconst 2, 1) := by decide +kernel
theorem dX8_init_25 : decode cX8_init 25 = .ok (.newarray .boolean, 2) := by decide +kernel
theorem dX8_init_27 : decode cX8_init 27 = .ok (.putfield 22, 3) := by decide +kernel
theorem dX8_init_30 : decode cX8_init 30 = .ok (.iconst 0, 1) := by decide +kernel
theorem dX8_init_31 : decode cX8_init 31 = .ok (.istore_n 1, 1) := by decide +kernel
theorem dX8_init_32 : decode cX8_init 32 = .ok (.iload_n 1, 1) := by decide +kernel
theorem dX8_init_33 : decode cX8_init 33 = .ok (.iconst 2, 1) := by decide +kernel
theorem dX8_init_34 : decode cX8_init 34 = .ok (.if_icmp .ge 22, 3) := by decide +kernel
theorem dX8_init_37 : decode cX8_init 37 = .ok (.aload_n 0, 1) := by decide +kernel
theorem dX8_init_38 : decode cX8_init 38 = .ok (.getfield 18, 3) := by decide +kernel
theorem dX8_init_41 : decode cX8_init 41 = .ok (.iload_n 1, 1) := by decide +kernel
theorem dX8_init_42 : decode cX8_init 42 = .ok (.new 9, 3) := by decide +kernel
theorem dX8_init_45 : decode cX8_init 45 = .ok (.dup, 1) := by decide +kernel
theorem dX8_init_46 : decode cX8_init 46 = .ok (.invokespecial 11, 3) := by decide +kernel
theorem dX8_init_49 : decode cX8_init 49 = .ok (.aastore, 1) := by decide +kernel
theorem dX8_init_50 : decode cX8_init 50 = .ok (.iinc 1 1, 3) := by decide +kernel
theorem dX8_init_53 : decode cX8_init 53 = .ok (.goto (-21), 3) := by decide +kernel
theorem dX8_init_56 : decode cX8_init 56 = .ok (.return_, 1) := by decide +kernel
set_option maxRecDepth 20000 in
theorem ggX8_copyFrom_X0_copyFrom : GoodIn wsX8_copyFrom wsX0_copyFrom := goodIn_r _ [8, 9, 10, 11, 12, 13, 14, 15, 16, 17, 18, 19, 20, 21, 22, 23, 24, 25, 26, 27, 28, 29, 30, 31, 32, 33, 34, 35, 36, 37, 38, 39, 40, 41, 42, 43, 44, 45, 46, 47, 48, 49, 50, 51, 52, 53, 54, 55, 59, 60, 61, 62, 63, 64, 65, 66, 67, 68, 69, 70, 71, 72, 73, 74, 75, 76, 77, 78, 79, 80, 81, 82, 83, 84, 85] (by decide +kernel) (by decide +kernel)
set_option maxRecDepth 20000 in
theorem gX8_copyFrom_X0_copyFrom : GoodIn wsX8_copyFrom (wsV RX8 26 RX0 yX0_copyFrom wsX0_copyFrom) := goodIn_app (goodIn_of _ (by decide +kernel)) ggX8_copyFrom_X0_copyFrom
theorem dX8_copyFrom_0 : decode cX8_copyFrom 0 = .ok (.aload_n 0, 1) := by decide +kernel
theorem dX8_copyFrom_1 : decode cX8_copyFrom 1 = .ok (.getfield 12, 3) := by decide +kernel
theorem dX8_copyFrom_4 : decode cX8_copyFrom 4 = .ok (.aload_n 1, 1) := by decide +kernel
theorem dX8_copyFrom_5 : decode cX8_copyFrom 5 = .ok (.getfield 12, 3) := by decide +kernel
theorem dX8_copyFrom_8 : decode cX8_copyFrom 8 = .ok (.invokevirtual 26, 3) := by decide +kernel
theorem dX8_copyFrom_11 : decode cX8_copyFrom 11 = .ok (.iconst 0, 1) := by decide +kernel
theorem dX8_copyFrom_12 : decode cX8_copyFrom 12 = .ok (.istore_n 2, 1) := by decide +kernel
theorem dX8_copyFrom_13 : decode cX8_copyFrom 13 = .ok (.iload_n 2, 1) := by decide +kernel
theorem dX8_copyFrom_14 : decode cX8_copyFrom 14 = .ok (.iconst 2, 1) := by decide +kernel
theorem dX8_copyFrom_15 : decode cX8_copyFrom 15 = .ok (.if_icmp .ge 45, 3) := by decide +kernel
theorem dX8_copyFrom_18 : decode cX8_copyFrom 18 = .ok (.aload_n 0, 1) := by decide +kernel
theorem dX8_copyFrom_19 : decode cX8_copyFrom 19 = .ok (.getfield 22, 3) := by decide +kernel
theorem dX8_copyFrom_22 : decode cX8_copyFrom 22 = .ok (.iload_n 2, 1) := by decide +kernel
theorem dX8_copyFrom_23 : decode cX8_copyFrom 23 = .ok (.aload_n 1, 1) := by decide +kernel
theorem dX8_copyFrom_24 : decode cX8_copyFrom 24 = .ok (.getfield 22, 3) := by decide +kernel
theorem dX8_copyFrom_27 : decode cX8_copyFrom 27 = .ok (.iload_n 2, 1) := by decide +kernel
theorem dX8_copyFrom_28 : decode cX8_copyFrom 28 = .ok (.baload, 1) := by decide +kernel
theorem dX8_copyFrom_29 : decode cX8_copyFrom 29 = .ok (.bastore, 1) := by decide +kernel
theorem dX8_copyFrom_30 : decode cX8_copyFrom 30 = .ok (.aload_n 0, 1) := by decide +kernel
theorem dX8_copyFrom_31 : decode cX8_copyFrom 31 = .ok (.getfield 22, 3) := by decide +kernel
theorem dX8_copyFrom_34 : decode cX8_copyFrom 34 = .ok (.iload_n 2, 1) := by decide +kernel
theorem dX8_copyFrom_35 : decode cX8_copyFrom 35 = .ok (.baload, 1) := by decide +kernel
theorem dX8_copyFrom_36 : decode cX8_copyFrom 36 = .ok (.ifCond .eq 18, 3) := by decide +kernel
theorem dX8_copyFrom_39 : decode cX8_copyFrom 39 = .ok (.aload_n 0, 1) := by decide +kernel
theorem dX8_copyFrom_40 : decode cX8_copyFrom 40 = .ok (.getfield 18, 3) := by decide +kernel
theorem dX8_copyFrom_43 : decode cX8_copyFrom 43 = .ok (.iload_n 2, 1) := by decide +kernel
theorem dX8_copyFrom_44 : decode cX8_copyFrom 44 = .ok (.aaload, 1) := by decide +kernel
theorem dX8_copyFrom_45 : decode cX8_copyFrom 45 = .ok (.aload_n 1, 1) := by decide +kernel
theorem dX8_copyFrom_46 : decode cX8_copyFrom 46 = .ok (.getfield 18, 3) := by decide +kernel
theorem dX8_copyFrom_49 : decode cX8_copyFrom 49 = .ok (.iload_n 2, 1) := by decide +kernel
theorem dX8_copyFrom_50 : decode cX8_copyFrom 50 = .ok (.aaload, 1) := by decide +kernel
theorem dX8_copyFrom_51 : decode cX8_copyFrom 51 = .ok (.invokevirtual 26, 3) := by decide +kernel
theorem dX8_copyFrom_54 : decode cX8_copyFrom 54 = .ok (.iinc 2 1, 3) := by decide +kernel
theorem dX8_copyFrom_57 : decode cX8_copyFrom 57 = .ok (.goto (-44), 3) := by decide +kernel
theorem dX8_copyFrom_60 : decode cX8_copyFrom 60 = .ok (.return_, 1) := by decide +kernel
set_option maxRecDepth 20000 in
theorem ggX8_fillSlot_X9_within : GoodIn wsX8_fillSlot wsX9_within := goodIn_r _ [7] (by decide +kernel) (by decide +kernel)
set_option maxRecDepth 20000 in
theorem gX8_fillSlot_X9_within_n30 : GoodIn wsX8_fillSlot (wsX9_within) := ggX8_fillSlot_X9_within
set_option maxRecDepth 20000 in
theorem ggX8_fillSlot_X0_copyFrom : GoodIn wsX8_fillSlot wsX0_copyFrom := goodIn_r _ [12, 13, 14, 15, 16, 17, 18, 19, 20, 21, 22, 23, 24, 25, 26, 27, 28, 29, 30, 31, 32, 33, 34, 35, 36, 37, 38, 39, 40, 41, 42, 43, 44, 45, 46, 47, 48, 49, 50, 51, 52, 53, 54, 55, 56, 57, 58, 59, 68, 69, 70, 71, 72, 73, 74, 75, 76, 77, 78, 79, 80, 81, 82, 83, 84, 85, 86, 87, 88, 89, 90, 91, 92, 93, 94] (by decide +kernel) (by decide +kernel)
set_option maxRecDepth 20000 in
theorem gX8_fillSlot_X0_copyFrom : GoodIn wsX8_fillSlot (wsV RX8 26 RX0 yX0_copyFrom wsX0_copyFrom) := goodIn_app (goodIn_of _ (by decide +kernel)) ggX8_fillSlot_X0_copyFrom
set_option maxRecDepth 20000 in
theorem ggX8_fillSlot_X0_allPoints : GoodIn wsX8_fillSlot wsX0_allPoints := goodIn_r _ [63, 14, 64, 68, 69, 70, 71, 72, 73, 74, 75, 76, 79, 80, 81, 82, 83, 84] (by decide +kernel) (by decide +kernel)
set_option maxRecDepth 20000 in
theorem gX8_fillSlot_X0_allPoints : GoodIn wsX8_fillSlot (wsV RX8 35 RX0 yX0_allPoints wsX0_allPoints) := goodIn_app (goodIn_of _ (by decide +kernel)) ggX8_fillSlot_X0_allPoints
theorem dX8_fillSlot_0 : decode cX8_fillSlot 0 = .ok (.iload_n 1, 1) := by decide +kernel
theorem dX8_fillSlot_1 : decode cX8_fillSlot 1 = .ok (.iconst 0, 1) := by decide +kernel
theorem dX8_fillSlot_2 : decode cX8_fillSlot 2 = .ok (.iconst 1, 1) := by decide +kernel
theorem dX8_fillSlot_3 : decode cX8_fillSlot 3 = .ok (.invokestatic 30, 3) := by decide +kernel
theorem dX8_fillSlot_6 : decode cX8_fillSlot 6 = .ok (.ifCond .ne 6, 3) := by decide +kernel
theorem dX8_fillSlot_9 : decode cX8_fillSlot 9 = .ok (.ldc 34, 2) := by decide +kernel
theorem dX8_fillSlot_11 : decode cX8_fillSlot 11 = .ok (.ireturn, 1) := by decide +kernel
theorem dX8_fillSlot_12 : decode cX8_fillSlot 12 = .ok (.aload_n 0, 1) := by decide +kernel
theorem dX8_fillSlot_13 : decode cX8_fillSlot 13 = .ok (.getfield 18, 3) := by decide +kernel
theorem dX8_fillSlot_16 : decode cX8_fillSlot 16 = .ok (.iload_n 1, 1) := by decide +kernel
theorem dX8_fillSlot_17 : decode cX8_fillSlot 17 = .ok (.aaload, 1) := by decide +kernel
theorem dX8_fillSlot_18 : decode cX8_fillSlot 18 = .ok (.aload_n 0, 1) := by decide +kernel
theorem dX8_fillSlot_19 : decode cX8_fillSlot 19 = .ok (.getfield 12, 3) := by decide +kernel
theorem dX8_fillSlot_22 : decode cX8_fillSlot 22 = .ok (.invokevirtual 26, 3) := by decide +kernel
theorem dX8_fillSlot_25 : decode cX8_fillSlot 25 = .ok (.aload_n 0, 1) := by decide +kernel
theorem dX8_fillSlot_26 : decode cX8_fillSlot 26 = .ok (.getfield 22, 3) := by decide +kernel
theorem dX8_fillSlot_29 : decode cX8_fillSlot 29 = .ok (.iload_n 1, 1) := by decide +kernel
theorem dX8_fillSlot_30 : decode cX8_fillSlot 30 = .ok (.iconst 1, 1) := by decide +kernel
theorem dX8_fillSlot_31 : decode cX8_fillSlot 31 = .ok (.bastore, 1) := by decide +kernel
theorem dX8_fillSlot_32 : decode cX8_fillSlot 32 = .ok (.aload_n 0, 1) := by decide +kernel
theorem dX8_fillSlot_33 : decode cX8_fillSlot 33 = .ok (.getfield 12, 3) := by decide +kernel
theorem dX8_fillSlot_36 : decode cX8_fillSlot 36 = .ok (.invokevirtual 35, 3) := by decide +kernel
theorem dX8_fillSlot_39 : decode cX8_fillSlot 39 = .ok (.ireturn, 1) := by decide +kernel
set_option maxRecDepth 20000 in
theorem ggX8_useSlot_X9_within : GoodIn wsX8_useSlot wsX9_within := goodIn_r _ [8] (by decide +kernel) (by decide +kernel)
set_option maxRecDepth 20000 in
theorem gX8_useSlot_X9_within_n30 : GoodIn wsX8_useSlot (wsX9_within) := ggX8_useSlot_X9_within
set_option maxRecDepth 20000 in
theorem ggX8_useSlot_X0_copyFrom : GoodIn wsX8_useSlot wsX0_copyFrom := goodIn_r _ [13, 14, 15, 16, 17, 18, 19, 20, 21, 22, 23, 24, 25, 26, 27, 28, 29, 30, 31, 32, 33, 34, 35, 36, 37, 38, 39, 40, 41, 42, 43, 44, 45, 46, 47, 48, 49, 50, 51, 52, 53, 54, 55, 56, 57, 58, 59, 60, 69, 70, 71, 72, 73, 74, 75, 76, 77, 78, 79, 80, 81, 82, 83, 84, 85, 86, 87, 88, 89, 90, 91, 92, 93, 94, 95] (by decide +kernel) (by decide +kernel)
set_option maxRecDepth 20000 in
theorem gX8_useSlot_X0_copyFrom : GoodIn wsX8_useSlot (wsV RX8 26 RX0 yX0_copyFrom wsX0_copyFrom) := goodIn_app (goodIn_of _ (by decide +kernel)) ggX8_useSlot_X0_copyFrom
set_option maxRecDepth 20000 in
theorem ggX8_useSlot_X0_allPoints : GoodIn wsX8_useSlot wsX0_allPoints := goodIn_r _ [64, 15, 65, 69, 70, 71, 72, 73, 74, 75, 76, 77, 80, 81, 82, 83, 84, 85] (by decide +kernel) (by decide +kernel)
set_option maxRecDepth 20000 in
theorem gX8_useSlot_X0_allPoints : GoodIn wsX8_useSlot (wsV RX8 35 RX0 yX0_allPoints wsX0_allPoints) := goodIn_app (goodIn_of _ (by decide +kernel)) ggX8_useSlot_X0_allPoints
theorem dX8_useSlot_0 : decode cX8_useSlot 0 = .ok (.iload_n 1, 1) := by decide +kernel
theorem dX8_useSlot_1 : decode cX8_useSlot 1 = .ok (.iconst 0, 1) := by decide +kernel
theorem dX8_useSlot_2 : decode cX8_useSlot 2 = .ok (.iconst 1, 1) := by decide +kernel
theorem dX8_useSlot_3 : decode cX8_useSlot 3 = .ok (.invokestatic 30, 3) := by decide +kernel
theorem dX8_useSlot_6 : decode cX8_useSlot 6 = .ok (.ifCond .ne 6, 3) := by decide +kernel
theorem dX8_useSlot_9 : decode cX8_useSlot 9 = .ok (.ldc 34, 2) := by decide +kernel
theorem dX8_useSlot_11 : decode cX8_useSlot 11 = .ok (.ireturn, 1) := by decide +kernel
theorem dX8_useSlot_12 : decode cX8_useSlot 12 = .ok (.aload_n 0, 1) := by decide +kernel
theorem dX8_useSlot_13 : decode cX8_useSlot 13 = .ok (.getfield 22, 3) := by decide +kernel
theorem dX8_useSlot_16 : decode cX8_useSlot 16 = .ok (.iload_n 1, 1) := by decide +kernel
theorem dX8_useSlot_17 : decode cX8_useSlot 17 = .ok (.baload, 1) := by decide +kernel
theorem dX8_useSlot_18 : decode cX8_useSlot 18 = .ok (.ifCond .ne 6, 3) := by decide +kernel
theorem dX8_useSlot_21 : decode cX8_useSlot 21 = .ok (.ldc 39, 2) := by decide +kernel
theorem dX8_useSlot_23 : decode cX8_useSlot 23 = .ok (.ireturn, 1) := by decide +kernel
theorem dX8_useSlot_24 : decode cX8_useSlot 24 = .ok (.aload_n 0, 1) := by decide +kernel
theorem dX8_useSlot_25 : decode cX8_useSlot 25 = .ok (.getfield 12, 3) := by decide +kernel
theorem dX8_useSlot_28 : decode cX8_useSlot 28 = .ok (.aload_n 0, 1) := by decide +kernel
theorem dX8_useSlot_29 : decode cX8_useSlot 29 = .ok (.getfield 18, 3) := by decide +kernel
theorem dX8_useSlot_32 : decode cX8_useSlot 32 = .ok (.iload_n 1, 1) := by decide +kernel
theorem dX8_useSlot_33 : decode cX8_useSlot 33 = .ok (.aaload, 1) := by decide +kernel
theorem dX8_useSlot_34 : decode cX8_useSlot 34 = .ok (.invokevirtual 26, 3) := by decide +kernel
theorem dX8_useSlot_37 : decode cX8_useSlot 37 = .ok (.aload_n 0, 1) := by decide +kernel
theorem dX8_useSlot_38 : decode cX8_useSlot 38 = .ok (.getfield 12, 3) := by decide +kernel
theorem dX8_useSlot_41 : decode cX8_useSlot 41 = .ok (.invokevirtual 35, 3) := by decide +kernel
theorem dX8_useSlot_44 : decode cX8_useSlot 44 = .ok (.ireturn, 1) := by decide +kernel
theorem dX8_slotsInUse_0 : decode cX8_slotsInUse 0 = .ok (.iconst 0, 1) := by decide +kernel
theorem dX8_slotsInUse_1 : decode cX8_slotsInUse 1 = .ok (.istore_n 1, 1) := by decide +kernel
theorem dX8_slotsInUse_2 : decode cX8_slotsInUse 2 = .ok (.aload_n 0, 1) := by decide +kernel
theorem dX8_slotsInUse_3 : decode cX8_slotsInUse 3 = .ok (.getfield 22, 3) := by decide +kernel
theorem dX8_slotsInUse_6 : decode cX8_slotsInUse 6 = .ok (.astore_n 2, 1) := by decide +kernel
theorem dX8_slotsInUse_7 : decode cX8_slotsInUse 7 = .ok (.aload_n 2, 1) := by decide +kernel
theorem dX8_slotsInUse_8 : decode cX8_slotsInUse 8 = .ok (.arraylength, 1) := by decide +kernel
theorem dX8_slotsInUse_9 : decode cX8_slotsInUse 9 = .ok (.istore_n 3, 1) := by decide +kernel
theorem dX8_slotsInUse_10 : decode cX8_slotsInUse 10 = .ok (.iconst 0, 1) := by decide +kernel
theorem dX8_slotsInUse_11 : decode cX8_slotsInUse 11 = .ok (.istore 4, 2) := by decide +kernel
theorem dX8_slotsInUse_13 : decode cX8_slotsInUse 13 = .ok (.iload 4, 2) := by decide +kernel
theorem dX8_slotsInUse_15 : decode cX8_slotsInUse 15 = .ok (.iload_n 3, 1) := by decide +kernel
theorem dX8_slotsInUse_16 : decode cX8_slotsInUse 16 = .ok (.if_icmp .ge 23, 3) := by decide +kernel
theorem dX8_slotsInUse_19 : decode cX8_slotsInUse 19 = .ok (.aload_n 2, 1) := by decide +kernel
theorem dX8_slotsInUse_20 : decode cX8_slotsInUse 20 = .ok (.iload 4, 2) := by decide +kernel
theorem dX8_slotsInUse_22 : decode cX8_slotsInUse 22 = .ok (.baload, 1) := by decide +kernel
theorem dX8_slotsInUse_23 : decode cX8_slotsInUse 23 = .ok (.istore 5, 2) := by decide +kernel
theorem dX8_slotsInUse_25 : decode cX8_slotsInUse 25 = .ok (.iload 5, 2) := by decide +kernel
theorem dX8_slotsInUse_27 : decode cX8_slotsInUse 27 = .ok (.ifCond .eq 6, 3) := by decide +kernel
theorem dX8_slotsInUse_30 : decode cX8_slotsInUse 30 = .ok (.iinc 1 1, 3) := by decide +kernel
theorem dX8_slotsInUse_33 : decode cX8_slotsInUse 33 = .ok (.iinc 4 1, 3) := by decide +kernel
theorem dX8_slotsInUse_36 : decode cX8_slotsInUse 36 = .ok (.goto (-23), 3) := by decide +kernel
theorem dX8_slotsInUse_39 : decode cX8_slotsInUse 39 = .ok (.iload_n 1, 1) := by decide +kernel
theorem dX8_slotsInUse_40 : decode cX8_slotsInUse 40 = .ok (.ireturn, 1) := by decide +kernel
set_option maxRecDepth 20000 in
theorem ggX9_init_X3_init : GoodIn wsX9_init wsX3_init := goodIn_r _ [18, 19, 2, 3, 20, 21, 22, 23, 24, 25, 26, 27, 28, 29, 30, 31, 32, 33, 34, 35, 36, 37, 38, 39, 40, 41, 42, 43, 44, 45, 46, 47, 48, 49, 50, 51, 52, 53, 54, 55, 13, 14, 56, 57, 58, 59, 60, 61, 62, 63, 64, 65, 66, 67, 68, 69, 70, 71, 86, 87, 88, 89, 106, 107, 108, 109, 110, 111, 112, 113, 114, 115, 116, 117, 118, 119, 120, 121, 122, 123, 124, 125, 126, 127, 128, 99, 100, 101, 102, 103, 104, 105] (by decide +kernel) (by decide +kernel)
set_option maxRecDepth 20000 in
theorem gX9_init_X3_init : GoodIn wsX9_init (wsX3_init) := ggX9_init_X3_init
set_option maxRecDepth 20000 in
theorem ggX9_init_X6_init : GoodIn wsX9_init wsX6_init := goodIn_r _ [73, 74, 2, 3, 75, 76, 77, 78, 79, 80, 81, 82, 83, 84, 85, 93, 94, 95, 96, 97, 98, 129, 130, 131, 132] (by decide +kernel) (by decide +kernel)
set_option maxRecDepth 20000 in
theorem gX9_init_X6_init_n18 : GoodIn wsX9_init (wsX6_init) := ggX9_init_X6_init
set_option maxRecDepth 20000 in
theorem ggX9_init_X5_init : GoodIn wsX9_init wsX5_init := goodIn_r _ [70, 71, 2, 3] (by decide +kernel) (by decide +kernel)
set_option maxRecDepth 20000 in
theorem gX9_init_X5_init_n25 : GoodIn wsX9_init (wsX5_init) := ggX9_init_X5_init
theorem dX9_init_0 : decode cX9_init 0 = .ok (.aload_n 0, 1) := by decide +kernel
theorem dX9_init_1 : decode cX9_init 1 = .ok (.invokespecial 1, 3) := by decide +kernel
theorem dX9_init_4 : decode cX9_init 4 = .ok (.aload_n 0, 1) := by decide +kernel
theorem dX9_init_5 : decode cX9_init 5 = .ok (.new 7, 3) := by decide +kernel
theorem dX9_init_8 : decode cX9_init 8 = .ok (.dup, 1) := by decide +kernel
theorem dX9_init_9 : decode cX9_init 9 = .ok (.invokespecial 9, 3) := by decide +kernel
theorem dX9_init_12 : decode cX9_init 12 = .ok (.putfield 10, 3) := by decide +kernel
theorem dX9_init_15 : decode cX9_init 15 = .ok (.aload_n 0, 1) := by decide +kernel
theorem dX9_init_16 : decode cX9_init 16 = .ok (.new 16, 3) := by decide +kernel
theorem dX9_init_19 : decode cX9_init 19 = .ok (.dup, 1) := by decide +kernel
theorem dX9_init_20 : decode cX9_init 20 = .ok (.invokespecial 18, 3) := by decide +kernel
theorem dX9_init_23 : decode cX9_init 23 = .ok (.putfield 19, 3) := by decide +kernel
theorem dX9_init_26 : decode cX9_init 26 = .ok (.aload_n 0, 1) := by decide +kernel
theorem dX9_init_27 : decode cX9_init 27 = .ok (.new 23, 3) := by decide +kernel
theorem dX9_init_30 : decode cX9_init 30 = .ok (.dup, 1) := by decide +kernel
theorem dX9_init_31 : decode cX9_init 31 = .ok (.invokespecial 25, 3) := by decide +kernel
theorem dX9_init_34 : decode cX9_init 34 = .ok (.putfield 26, 3) := by decide +kernel
theorem dX9_init_37 : decode cX9_init 37 = .ok (.return_, 1) := by decide +kernel
set_option maxRecDepth 20000 in
theorem ggX9_setKind_X3_prepare : GoodIn wsX9_setKind wsX3_prepare := goodIn_r _ [6, 7, 8, 9, 10, 11, 12, 13, 14, 15, 16, 17, 18, 19, 20, 21, 22, 23, 24, 25, 26, 27, 28, 29, 30, 31, 32, 33, 34, 35, 36, 37, 38, 39, 40, 41, 42, 43, 44, 45, 46, 47, 48, 49, 50, 51, 52, 53, 54, 55, 56, 57, 58, 59, 60, 61, 62, 63, 64, 65, 66, 67, 68, 111, 112, 113, 114, 115, 116, 117, 118, 119, 120, 121, 122, 123, 124, 125, 126, 127, 128, 129, 130, 131, 132, 133, 134, 135, 136, 137, 138, 139, 140, 141, 142, 143, 144] (by decide +kernel) (by decide +kernel)
set_option maxRecDepth 20000 in
theorem gX9_setKind_X3_prepare : GoodIn wsX9_setKind (wsV RX9 30 RX3 yX3_prepare wsX3_prepare) := goodIn_app (goodIn_of _ (by decide +kernel)) ggX9_setKind_X3_prepare
set_option maxRecDepth 20000 in
theorem ggX9_setKind_X9_counter : GoodIn wsX9_setKind wsX9_counter := goodIn_r _ [73, 1, 74, 75, 108, 109, 110, 111, 112, 113, 114, 115, 116, 117] (by decide +kernel) (by decide +kernel)
set_option maxRecDepth 20000 in
theorem gX9_setKind_X9_counter : GoodIn wsX9_setKind (wsV RX9 33 RX9 yX9_counter wsX9_counter) := goodIn_app (goodIn_of _ (by decide +kernel)) ggX9_setKind_X9_counter
set_option maxRecDepth 20000 in
theorem ggX9_setKind_X0_changeKind : GoodIn wsX9_setKind wsX0_changeKind := goodIn_r _ [79, 80, 81, 82, 83, 84, 85, 20, 86, 22, 87, 72, 88, 127, 128, 118, 119, 120, 121, 122, 123, 124, 125, 126] (by decide +kernel) (by decide +kernel)
set_option maxRecDepth 20000 in
theorem gX9_setKind_X0_changeKind : GoodIn wsX9_setKind (wsV RX9 37 RX0 yX0_changeKind wsX0_changeKind) := goodIn_app (goodIn_of _ (by decide +kernel)) ggX9_setKind_X0_changeKind
set_option maxRecDepth 20000 in
theorem ggX9_setKind_X3_settle : GoodIn wsX9_setKind wsX3_settle := goodIn_r _ [92, 93, 72, 94, 95, 96, 97, 98, 99, 100, 5, 101, 102, 103, 7, 104, 105, 106, 107, 87, 88, 111, 112, 113, 114] (by decide +kernel) (by decide +kernel)
set_option maxRecDepth 20000 in
theorem gX9_setKind_X3_settle : GoodIn wsX9_setKind (wsV RX9 43 RX3 yX3_settle wsX3_settle) := goodIn_app (goodIn_of _ (by decide +kernel)) ggX9_setKind_X3_settle
theorem dX9_setKind_0 : decode cX9_setKind 0 = .ok (.aload_n 0, 1) := by decide +kernel
theorem dX9_setKind_1 : decode cX9_setKind 1 = .ok (.getfield 10, 3) := by decide +kernel
theorem dX9_setKind_4 : decode cX9_setKind 4 = .ok (.invokevirtual 30, 3) := by decide +kernel
theorem dX9_setKind_7 : decode cX9_setKind 7 = .ok (.aload_n 0, 1) := by decide +kernel
theorem dX9_setKind_8 : decode cX9_setKind 8 = .ok (.getfield 10, 3) := by decide +kernel
theorem dX9_setKind_11 : decode cX9_setKind 11 = .ok (.aload_n 0, 1) := by decide +kernel
theorem dX9_setKind_12 : decode cX9_setKind 12 = .ok (.invokevirtual 33, 3) := by decide +kernel
theorem dX9_setKind_15 : decode cX9_setKind 15 = .ok (.iload_n 1, 1) := by decide +kernel
theorem dX9_setKind_16 : decode cX9_setKind 16 = .ok (.iload_n 2, 1) := by decide +kernel
theorem dX9_setKind_17 : decode cX9_setKind 17 = .ok (.iload_n 3, 1) := by decide +kernel
theorem dX9_setKind_18 : decode cX9_setKind 18 = .ok (.invokevirtual 37, 3) := by decide +kernel
theorem dX9_setKind_21 : decode cX9_setKind 21 = .ok (.invokevirtual 43, 3) := by decide +kernel
theorem dX9_setKind_24 : decode cX9_setKind 24 = .ok (.ireturn, 1) := by decide +kernel
set_option maxRecDepth 20000 in
theorem ggX9_setScale_X3_prepare : GoodIn wsX9_setScale wsX3_prepare := goodIn_r _ [6, 7, 8, 9, 10, 11, 12, 13, 14, 15, 16, 17, 18, 19, 20, 21, 22, 23, 24, 25, 26, 27, 28, 29, 30, 31, 32, 33, 34, 35, 36, 37, 38, 39, 40, 41, 42, 43, 44, 45, 46, 47, 48, 49, 50, 51, 52, 53, 54, 55, 56, 57, 58, 59, 60, 61, 62, 63, 64, 65, 66, 67, 68, 115, 116, 117, 118, 119, 120, 121, 122, 123, 124, 125, 126, 127, 128, 129, 130, 131, 132, 133, 134, 135, 136, 137, 138, 139, 140, 141, 142, 143, 144, 145, 146, 147, 148] (by decide +kernel) (by decide +kernel)
set_option maxRecDepth 20000 in
theorem gX9_setScale_X3_prepare : GoodIn wsX9_setScale (wsV RX9 30 RX3 yX3_prepare wsX3_prepare) := goodIn_app (goodIn_of _ (by decide +kernel)) ggX9_setScale_X3_prepare
set_option maxRecDepth 20000 in
theorem ggX9_setScale_X9_counter : GoodIn wsX9_setScale wsX9_counter := goodIn_r _ [73, 1, 74, 75, 112, 113, 114, 115, 116, 117, 118, 119, 120, 121] (by decide +kernel) (by decide +kernel)
set_option maxRecDepth 20000 in
theorem gX9_setScale_X9_counter : GoodIn wsX9_setScale (wsV RX9 33 RX9 yX9_counter wsX9_counter) := goodIn_app (goodIn_of _ (by decide +kernel)) ggX9_setScale_X9_counter
set_option maxRecDepth 20000 in
theorem ggX9_setScale_X0_changeScale : GoodIn wsX9_setScale wsX0_changeScale := goodIn_r _ [79, 80, 25, 81, 82, 83, 84, 85, 86, 87, 88, 89, 90, 91, 72, 92, 122, 123, 124, 125, 126, 127, 128, 129, 130, 146, 147, 148] (by decide +kernel) (by decide +kernel)
set_option maxRecDepth 20000 in
theorem gX9_setScale_X0_changeScale : GoodIn wsX9_setScale (wsV RX9 47 RX0 yX0_changeScale wsX0_changeScale) := goodIn_app (goodIn_of _ (by decide +kernel)) ggX9_setScale_X0_changeScale
set_option maxRecDepth 20000 in
theorem ggX9_setScale_X3_settle : GoodIn wsX9_setScale wsX3_settle := goodIn_r _ [96, 97, 72, 98, 99, 100, 101, 102, 103, 104, 5, 105, 106, 107, 7, 108, 109, 110, 111, 91, 92, 115, 116, 117, 118] (by decide +kernel) (by decide +kernel)
set_option maxRecDepth 20000 in
theorem gX9_setScale_X3_settle : GoodIn wsX9_setScale (wsV RX9 43 RX3 yX3_settle wsX3_settle) := goodIn_app (goodIn_of _ (by decide +kernel)) ggX9_setScale_X3_settle
theorem dX9_setScale_0 : decode cX9_setScale 0 = .ok (.aload_n 0, 1) := by decide +kernel
theorem dX9_setScale_1 : decode cX9_setScale 1 = .ok (.getfield 10, 3) := by decide +kernel
theorem dX9_setScale_4 : decode cX9_setScale 4 = .ok (.invokevirtual 30, 3) := by decide +kernel
theorem dX9_setScale_7 : decode cX9_setScale 7 = .ok (.aload_n 0, 1) := by decide +kernel
theorem dX9_setScale_8 : decode cX9_setScale 8 = .ok (.getfield 10, 3) := by decide +kernel
theorem dX9_setScale_11 : decode cX9_setScale 11 = .ok (.aload_n 0, 1) := by decide +kernel
theorem dX9_setScale_12 : decode cX9_setScale 12 = .ok (.invokevirtual 33, 3) := by decide +kernel
theorem dX9_setScale_15 : decode cX9_setScale 15 = .ok (.iload_n 1, 1) := by decide +kernel
theorem dX9_setScale_16 : decode cX9_setScale 16 = .ok (.iload_n 2, 1) := by decide +kernel
theorem dX9_setScale_17 : decode cX9_setScale 17 = .ok (.invokevirtual 47, 3) := by decide +kernel
theorem dX9_setScale_20 : decode cX9_setScale 20 = .ok (.invokevirtual 43, 3) := by decide +kernel
theorem dX9_setScale_23 : decode cX9_setScale 23 = .ok (.ireturn, 1) := by decide +kernel
set_option maxRecDepth 20000 in
theorem ggX9_setBias_X3_prepare : GoodIn wsX9_setBias wsX3_prepare := goodIn_r _ [6, 7, 8, 9, 10, 11, 12, 13, 14, 15, 16, 17, 18, 19, 20, 21, 22, 23, 24, 25, 26, 27, 28, 29, 30, 31, 32, 33, 34, 35, 36, 37, 38, 39, 40, 41, 42, 43, 44, 45, 46, 47, 48, 49, 50, 51, 52, 53, 54, 55, 56, 57, 58, 59, 60, 61, 62, 63, 64, 65, 66, 67, 68, 107, 108, 109, 110, 111, 112, 113, 114, 115, 116, 117, 118, 119, 120, 121, 122, 123, 124, 125, 126, 127, 128, 129, 130, 131, 132, 133, 134, 135, 136, 137, 138, 139, 140] (by decide +kernel) (by decide +kernel)
set_option maxRecDepth 20000 in
theorem gX9_setBias_X3_prepare : GoodIn wsX9_setBias (wsV RX9 30 RX3 yX3_prepare wsX3_prepare) := goodIn_app (goodIn_of _ (by decide +kernel)) ggX9_setBias_X3_prepare
set_option maxRecDepth 20000 in
theorem ggX9_setBias_X9_counter : GoodIn wsX9_setBias wsX9_counter := goodIn_r _ [73, 1, 74, 75, 104, 105, 106, 107, 108, 109, 110, 111, 112, 113] (by decide +kernel) (by decide +kernel)
set_option maxRecDepth 20000 in
theorem gX9_setBias_X9_counter : GoodIn wsX9_setBias (wsV RX9 33 RX9 yX9_counter wsX9_counter) := goodIn_app (goodIn_of _ (by decide +kernel)) ggX9_setBias_X9_counter
set_option maxRecDepth 20000 in
theorem ggX9_setBias_X0_changeBias : GoodIn wsX9_setBias wsX0_changeBias := goodIn_r _ [79, 25, 80, 81, 82, 83, 72, 84, 114, 115, 116, 117, 118, 119, 120, 121, 122, 138, 139, 140] (by decide +kernel) (by decide +kernel)
set_option maxRecDepth 20000 in
theorem gX9_setBias_X0_changeBias : GoodIn wsX9_setBias (wsV RX9 51 RX0 yX0_changeBias wsX0_changeBias) := goodIn_app (goodIn_of _ (by decide +kernel)) ggX9_setBias_X0_changeBias
set_option maxRecDepth 20000 in
theorem ggX9_setBias_X3_settle : GoodIn wsX9_setBias wsX3_settle := goodIn_r _ [88, 89, 72, 90, 91, 92, 93, 94, 95, 96, 5, 97, 98, 99, 7, 100, 101, 102, 103, 83, 84, 107, 108, 109, 110] (by decide +kernel) (by decide +kernel)
set_option maxRecDepth 20000 in
theorem gX9_setBias_X3_settle : GoodIn wsX9_setBias (wsV RX9 43 RX3 yX3_settle wsX3_settle) := goodIn_app (goodIn_of _ (by decide +kernel)) ggX9_setBias_X3_settle
theorem dX9_setBias_0 : decode cX9_setBias 0 = .ok (.aload_n 0, 1) := by decide +kernel
theorem dX9_setBias_1 : decode cX9_setBias 1 = .ok (.getfield 10, 3) := by decide +kernel
theorem dX9_setBias_4 : decode cX9_setBias 4 = .ok (.invokevirtual 30, 3) := by decide +kernel
theorem dX9_setBias_7 : decode cX9_setBias 7 = .ok (.aload_n 0, 1) := by decide +kernel
theorem dX9_setBias_8 : decode cX9_setBias 8 = .ok (.getfield 10, 3) := by decide +kernel
theorem dX9_setBias_11 : decode cX9_setBias 11 = .ok (.aload_n 0, 1) := by decide +kernel
theorem dX9_setBias_12 : decode cX9_setBias 12 = .ok (.invokevirtual 33, 3) := by decide +kernel
theorem dX9_setBias_15 : decode cX9_setBias 15 = .ok (.iload_n 1, 1) := by decide +kernel
theorem dX9_setBias_16 : decode cX9_setBias 16 = .ok (.invokevirtual 51, 3) := by decide +kernel
theorem dX9_setBias_19 : decode cX9_setBias 19 = .ok (.invokevirtual 43, 3) := by decide +kernel
theorem dX9_setBias_22 : decode cX9_setBias 22 = .ok (.ireturn, 1) := by decide +kernel
set_option maxRecDepth 20000 in
theorem ggX9_setRule_X3_prepare : GoodIn wsX9_setRule wsX3_prepare := goodIn_r _ [6, 7, 8, 9, 10, 11, 12, 13, 14, 15, 16, 17, 18, 19, 20, 21, 22, 23, 24, 25, 26, 27, 28, 29, 30, 31, 32, 33, 34, 35, 36, 37, 38, 39, 40, 41, 42, 43, 44, 45, 46, 47, 48, 49, 50, 51, 52, 53, 54, 55, 56, 57, 58, 59, 60, 61, 62, 63, 64, 65, 66, 67, 68, 105, 106, 107, 108, 109, 110, 111, 112, 113, 114, 115, 116, 117, 118, 119, 120, 121, 122, 123, 124, 125, 126, 127, 128, 129, 130, 131, 132, 133, 134, 135, 136, 137, 138] (by decide +kernel) (by decide +kernel)
set_option maxRecDepth 20000 in
theorem gX9_setRule_X3_prepare : GoodIn wsX9_setRule (wsV RX9 30 RX3 yX3_prepare wsX3_prepare) := goodIn_app (goodIn_of _ (by decide +kernel)) ggX9_setRule_X3_prepare
set_option maxRecDepth 20000 in
theorem ggX9_setRule_X9_counter : GoodIn wsX9_setRule wsX9_counter := goodIn_r _ [73, 1, 74, 75, 102, 103, 104, 105, 106, 107, 108, 109, 110, 111] (by decide +kernel) (by decide +kernel)
set_option maxRecDepth 20000 in
theorem gX9_setRule_X9_counter : GoodIn wsX9_setRule (wsV RX9 33 RX9 yX9_counter wsX9_counter) := goodIn_app (goodIn_of _ (by decide +kernel)) ggX9_setRule_X9_counter
set_option maxRecDepth 20000 in
theorem ggX9_setRule_X0_changeRule : GoodIn wsX9_setRule wsX0_changeRule := goodIn_r _ [79, 80, 28, 81, 72, 82, 112, 113, 114, 115, 116, 117, 118, 119, 120] (by decide +kernel) (by decide +kernel)
set_option maxRecDepth 20000 in
theorem gX9_setRule_X0_changeRule : GoodIn wsX9_setRule (wsV RX9 54 RX0 yX0_changeRule wsX0_changeRule) := goodIn_app (goodIn_of _ (by decide +kernel)) ggX9_setRule_X0_changeRule
set_option maxRecDepth 20000 in
theorem ggX9_setRule_X3_settle : GoodIn wsX9_setRule wsX3_settle := goodIn_r _ [86, 87, 72, 88, 89, 90, 91, 92, 93, 94, 5, 95, 96, 97, 7, 98, 99, 100, 101, 81, 82, 105, 106, 107, 108] (by decide +kernel) (by decide +kernel)
set_option maxRecDepth 20000 in
theorem gX9_setRule_X3_settle : GoodIn wsX9_setRule (wsV RX9 43 RX3 yX3_settle wsX3_settle) := goodIn_app (goodIn_of _ (by decide +kernel)) ggX9_setRule_X3_settle
theorem dX9_setRule_0 : decode cX9_setRule 0 = .ok (.aload_n 0, 1) := by decide +kernel
theorem dX9_setRule_1 : decode cX9_setRule 1 = .ok (.getfield 10, 3) := by decide +kernel
theorem dX9_setRule_4 : decode cX9_setRule 4 = .ok (.invokevirtual 30, 3) := by decide +kernel
theorem dX9_setRule_7 : decode cX9_setRule 7 = .ok (.aload_n 0, 1) := by decide +kernel
theorem dX9_setRule_8 : decode cX9_setRule 8 = .ok (.getfield 10, 3) := by decide +kernel
theorem dX9_setRule_11 : decode cX9_setRule 11 = .ok (.aload_n 0, 1) := by decide +kernel
theorem dX9_setRule_12 : decode cX9_setRule 12 = .ok (.invokevirtual 33, 3) := by decide +kernel
theorem dX9_setRule_15 : decode cX9_setRule 15 = .ok (.iload_n 1, 1) := by decide +kernel
theorem dX9_setRule_16 : decode cX9_setRule 16 = .ok (.invokevirtual 54, 3) := by decide +kernel
theorem dX9_setRule_19 : decode cX9_setRule 19 = .ok (.invokevirtual 43, 3) := by decide +kernel
theorem dX9_setRule_22 : decode cX9_setRule 22 = .ok (.ireturn, 1) := by decide +kernel
set_option maxRecDepth 20000 in
theorem ggX9_setFee_X3_prepare : GoodIn wsX9_setFee wsX3_prepare := goodIn_r _ [6, 7, 8, 9, 10, 11, 12, 13, 14, 15, 16, 17, 18, 19, 20, 21, 22, 23, 24, 25, 26, 27, 28, 29, 30, 31, 32, 33, 34, 35, 36, 37, 38, 39, 40, 41, 42, 43, 44, 45, 46, 47, 48, 49, 50, 51, 52, 53, 54, 55, 56, 57, 58, 59, 60, 61, 62, 63, 64, 65, 66, 67, 68, 105, 106, 107, 108, 109, 110, 111, 112, 113, 114, 115, 116, 117, 118, 119, 120, 121, 122, 123, 124, 125, 126, 127, 128, 129, 130, 131, 132, 133, 134, 135, 136, 137, 138] (by decide +kernel) (by decide +kernel)
set_option maxRecDepth 20000 in
theorem gX9_setFee_X3_prepare : GoodIn wsX9_setFee (wsV RX9 30 RX3 yX3_prepare wsX3_prepare) := goodIn_app (goodIn_of _ (by decide +kernel)) ggX9_setFee_X3_prepare
set_option maxRecDepth 20000 in
theorem ggX9_setFee_X9_counter : GoodIn wsX9_setFee wsX9_counter := goodIn_r _ [73, 1, 74, 75, 102, 103, 104, 105, 106, 107, 108, 109, 110, 111] (by decide +kernel) (by decide +kernel)
set_option maxRecDepth 20000 in
theorem gX9_setFee_X9_counter : GoodIn wsX9_setFee (wsV RX9 33 RX9 yX9_counter wsX9_counter) := goodIn_app (goodIn_of _ (by decide +kernel)) ggX9_setFee_X9_counter
set_option maxRecDepth 20000 in
theorem ggX9_setFee_X0_changeFee : GoodIn wsX9_setFee wsX0_changeFee := goodIn_r _ [79, 80, 29, 81, 72, 82, 112, 113, 114, 115, 116, 117, 118, 119, 120] (by decide +kernel) (by decide +kernel)
set_option maxRecDepth 20000 in
theorem gX9_setFee_X0_changeFee : GoodIn wsX9_setFee (wsV RX9 57 RX0 yX0_changeFee wsX0_changeFee) := goodIn_app (goodIn_of _ (by decide +kernel)) ggX9_setFee_X0_changeFee
set_option maxRecDepth 20000 in
theorem ggX9_setFee_X3_settle : GoodIn wsX9_setFee wsX3_settle := goodIn_r _ [86, 87, 72, 88, 89, 90, 91, 92, 93, 94, 5, 95, 96, 97, 7, 98, 99, 100, 101, 81, 82, 105, 106, 107, 108] (by decide +kernel) (by decide +kernel)
set_option maxRecDepth 20000 in
theorem gX9_setFee_X3_settle : GoodIn wsX9_setFee (wsV RX9 43 RX3 yX3_settle wsX3_settle) := goodIn_app (goodIn_of _ (by decide +kernel)) ggX9_setFee_X3_settle
theorem dX9_setFee_0 : decode cX9_setFee 0 = .ok (.aload_n 0, 1) := by decide +kernel
theorem dX9_setFee_1 : decode cX9_setFee 1 = .ok (.getfield 10, 3) := by decide +kernel
theorem dX9_setFee_4 : decode cX9_setFee 4 = .ok (.invokevirtual 30, 3) := by decide +kernel
theorem dX9_setFee_7 : decode cX9_setFee 7 = .ok (.aload_n 0, 1) := by decide +kernel
theorem dX9_setFee_8 : decode cX9_setFee 8 = .ok (.getfield 10, 3) := by decide +kernel
theorem dX9_setFee_11 : decode cX9_setFee 11 = .ok (.aload_n 0, 1) := by decide +kernel
theorem dX9_setFee_12 : decode cX9_setFee 12 = .ok (.invokevirtual 33, 3) := by decide +kernel
theorem dX9_setFee_15 : decode cX9_setFee 15 = .ok (.iload_n 1, 1) := by decide +kernel
theorem dX9_setFee_16 : decode cX9_setFee 16 = .ok (.invokevirtual 57, 3) := by decide +kernel
theorem dX9_setFee_19 : decode cX9_setFee 19 = .ok (.invokevirtual 43, 3) := by decide +kernel
theorem dX9_setFee_22 : decode cX9_setFee 22 = .ok (.ireturn, 1) := by decide +kernel
set_option maxRecDepth 20000 in
theorem ggX9_come_X3_prepare : GoodIn wsX9_come wsX3_prepare := goodIn_r _ [6, 7, 8, 9, 10, 11, 12, 13, 14, 15, 16, 17, 18, 19, 20, 21, 22, 23, 24, 25, 26, 27, 28, 29, 30, 31, 32, 33, 34, 35, 36, 37, 38, 39, 40, 41, 42, 43, 44, 45, 46, 47, 48, 49, 50, 51, 52, 53, 54, 55, 56, 57, 58, 59, 60, 61, 62, 63, 64, 65, 66, 67, 68, 110, 111, 112, 113, 114, 115, 116, 117, 118, 119, 120, 121, 122, 123, 124, 125, 126, 127, 128, 129, 130, 131, 132, 133, 134, 135, 136, 137, 138, 139, 140, 141, 142, 143] (by decide +kernel) (by decide +kernel)
set_option maxRecDepth 20000 in
theorem gX9_come_X3_prepare : GoodIn wsX9_come (wsV RX9 30 RX3 yX3_prepare wsX3_prepare) := goodIn_app (goodIn_of _ (by decide +kernel)) ggX9_come_X3_prepare
set_option maxRecDepth 20000 in
theorem ggX9_come_X9_counter : GoodIn wsX9_come wsX9_counter := goodIn_r _ [73, 1, 74, 75, 107, 108, 109, 110, 111, 112, 113, 114, 115, 116] (by decide +kernel) (by decide +kernel)
set_option maxRecDepth 20000 in
theorem gX9_come_X9_counter : GoodIn wsX9_come (wsV RX9 33 RX9 yX9_counter wsX9_counter) := goodIn_app (goodIn_of _ (by decide +kernel)) ggX9_come_X9_counter
set_option maxRecDepth 20000 in
theorem ggX9_come_X0_addCustomer : GoodIn wsX9_come wsX0_addCustomer := goodIn_r _ [79, 80, 26, 81, 23, 82, 72, 83, 84, 85, 86, 41, 87, 43, 44, 117, 118, 119, 120, 121, 122, 123, 124, 125, 128, 129, 130, 131, 132, 133] (by decide +kernel) (by decide +kernel)
set_option maxRecDepth 20000 in
theorem gX9_come_X0_addCustomer : GoodIn wsX9_come (wsV RX9 60 RX0 yX0_addCustomer wsX0_addCustomer) := goodIn_app (goodIn_of _ (by decide +kernel)) ggX9_come_X0_addCustomer
set_option maxRecDepth 20000 in
theorem ggX9_come_X3_settle : GoodIn wsX9_come wsX3_settle := goodIn_r _ [91, 92, 72, 93, 94, 95, 96, 97, 98, 99, 5, 100, 101, 102, 7, 103, 104, 105, 106, 82, 83, 110, 111, 112, 113] (by decide +kernel) (by decide +kernel)
set_option maxRecDepth 20000 in
theorem gX9_come_X3_settle : GoodIn wsX9_come (wsV RX9 43 RX3 yX3_settle wsX3_settle) := goodIn_app (goodIn_of _ (by decide +kernel)) ggX9_come_X3_settle
theorem dX9_come_0 : decode cX9_come 0 = .ok (.aload_n 0, 1) := by decide +kernel
theorem dX9_come_1 : decode cX9_come 1 = .ok (.getfield 10, 3) := by decide +kernel
theorem dX9_come_4 : decode cX9_come 4 = .ok (.invokevirtual 30, 3) := by decide +kernel
theorem dX9_come_7 : decode cX9_come 7 = .ok (.aload_n 0, 1) := by decide +kernel
theorem dX9_come_8 : decode cX9_come 8 = .ok (.getfield 10, 3) := by decide +kernel
theorem dX9_come_11 : decode cX9_come 11 = .ok (.aload_n 0, 1) := by decide +kernel
theorem dX9_come_12 : decode cX9_come 12 = .ok (.invokevirtual 33, 3) := by decide +kernel
theorem dX9_come_15 : decode cX9_come 15 = .ok (.iload_n 1, 1) := by decide +kernel
theorem dX9_come_16 : decode cX9_come 16 = .ok (.invokevirtual 60, 3) := by decide +kernel
theorem dX9_come_19 : decode cX9_come 19 = .ok (.invokevirtual 43, 3) := by decide +kernel
theorem dX9_come_22 : decode cX9_come 22 = .ok (.ireturn, 1) := by decide +kernel
set_option maxRecDepth 20000 in
theorem ggX9_leave_X3_prepare : GoodIn wsX9_leave wsX3_prepare := goodIn_r _ [6, 7, 8, 9, 10, 11, 12, 13, 14, 15, 16, 17, 18, 19, 20, 21, 22, 23, 24, 25, 26, 27, 28, 29, 30, 31, 32, 33, 34, 35, 36, 37, 38, 39, 40, 41, 42, 43, 44, 45, 46, 47, 48, 49, 50, 51, 52, 53, 54, 55, 56, 57, 58, 59, 60, 61, 62, 63, 64, 65, 66, 67, 68, 114, 115, 116, 117, 118, 119, 120, 121, 122, 123, 124, 125, 126, 127, 128, 129, 130, 131, 132, 133, 134, 135, 136, 137, 138, 139, 140, 141, 142, 143, 144, 145, 146, 147] (by decide +kernel) (by decide +kernel)
set_option maxRecDepth 20000 in
theorem gX9_leave_X3_prepare : GoodIn wsX9_leave (wsV RX9 30 RX3 yX3_prepare wsX3_prepare) := goodIn_app (goodIn_of _ (by decide +kernel)) ggX9_leave_X3_prepare
set_option maxRecDepth 20000 in
theorem ggX9_leave_X9_counter : GoodIn wsX9_leave wsX9_counter := goodIn_r _ [73, 1, 74, 75, 111, 112, 113, 114, 115, 116, 117, 118, 119, 120] (by decide +kernel) (by decide +kernel)
set_option maxRecDepth 20000 in
theorem gX9_leave_X9_counter : GoodIn wsX9_leave (wsV RX9 33 RX9 yX9_counter wsX9_counter) := goodIn_app (goodIn_of _ (by decide +kernel)) ggX9_leave_X9_counter
set_option maxRecDepth 20000 in
theorem ggX9_leave_X0_dropCustomer : GoodIn wsX9_leave wsX0_dropCustomer := goodIn_r _ [79, 80, 81, 23, 26, 82, 83, 84, 20, 85, 86, 72, 87, 88, 89, 90, 41, 91, 43, 44, 132, 133, 134, 135, 136, 137, 121, 122, 123, 124, 125, 126, 127, 128, 129] (by decide +kernel) (by decide +kernel)
set_option maxRecDepth 20000 in
theorem gX9_leave_X0_dropCustomer : GoodIn wsX9_leave (wsV RX9 63 RX0 yX0_dropCustomer wsX0_dropCustomer) := goodIn_app (goodIn_of _ (by decide +kernel)) ggX9_leave_X0_dropCustomer
set_option maxRecDepth 20000 in
theorem ggX9_leave_X3_settle : GoodIn wsX9_leave wsX3_settle := goodIn_r _ [95, 96, 72, 97, 98, 99, 100, 101, 102, 103, 5, 104, 105, 106, 7, 107, 108, 109, 110, 86, 87, 114, 115, 116, 117] (by decide +kernel) (by decide +kernel)
set_option maxRecDepth 20000 in
theorem gX9_leave_X3_settle : GoodIn wsX9_leave (wsV RX9 43 RX3 yX3_settle wsX3_settle) := goodIn_app (goodIn_of _ (by decide +kernel)) ggX9_leave_X3_settle
theorem dX9_leave_0 : decode cX9_leave 0 = .ok (.aload_n 0, 1) := by decide +kernel
theorem dX9_leave_1 : decode cX9_leave 1 = .ok (.getfield 10, 3) := by decide +kernel
theorem dX9_leave_4 : decode cX9_leave 4 = .ok (.invokevirtual 30, 3) := by decide +kernel
theorem dX9_leave_7 : decode cX9_leave 7 = .ok (.aload_n 0, 1) := by decide +kernel
theorem dX9_leave_8 : decode cX9_leave 8 = .ok (.getfield 10, 3) := by decide +kernel
theorem dX9_leave_11 : decode cX9_leave 11 = .ok (.aload_n 0, 1) := by decide +kernel
theorem dX9_leave_12 : decode cX9_leave 12 = .ok (.invokevirtual 33, 3) := by decide +kernel
theorem dX9_leave_15 : decode cX9_leave 15 = .ok (.iload_n 1, 1) := by decide +kernel
theorem dX9_leave_16 : decode cX9_leave 16 = .ok (.invokevirtual 63, 3) := by decide +kernel
theorem dX9_leave_19 : decode cX9_leave 19 = .ok (.invokevirtual 43, 3) := by decide +kernel
theorem dX9_leave_22 : decode cX9_leave 22 = .ok (.ireturn, 1) := by decide +kernel
set_option maxRecDepth 20000 in
theorem ggX9_weigh_X3_prepare : GoodIn wsX9_weigh wsX3_prepare := goodIn_r _ [6, 7, 8, 9, 10, 11, 12, 13, 14, 15, 16, 17, 18, 19, 20, 21, 22, 23, 24, 25, 26, 27, 28, 29, 30, 31, 32, 33, 34, 35, 36, 37, 38, 39, 40, 41, 42, 43, 44, 45, 46, 47, 48, 49, 50, 51, 52, 53, 54, 55, 56, 57, 58, 59, 60, 61, 62, 63, 64, 65, 66, 67, 68, 181, 182, 183, 184, 185, 186, 187, 188, 189, 190, 191, 192, 193, 194, 195, 196, 197, 198, 199, 200, 201, 202, 203, 204, 205, 206, 207, 208, 209, 210, 211, 212, 213, 214] (by decide +kernel) (by decide +kernel)
set_option maxRecDepth 20000 in
theorem gX9_weigh_X3_prepare : GoodIn wsX9_weigh (wsV RX9 30 RX3 yX3_prepare wsX3_prepare) := goodIn_app (goodIn_of _ (by decide +kernel)) ggX9_weigh_X3_prepare
set_option maxRecDepth 20000 in
theorem ggX9_weigh_X9_counter : GoodIn wsX9_weigh wsX9_counter := goodIn_r _ [73, 1, 74, 75, 178, 179, 180, 181, 182, 183, 184, 185, 186, 187] (by decide +kernel) (by decide +kernel)
set_option maxRecDepth 20000 in
theorem gX9_weigh_X9_counter : GoodIn wsX9_weigh (wsV RX9 33 RX9 yX9_counter wsX9_counter) := goodIn_app (goodIn_of _ (by decide +kernel)) ggX9_weigh_X9_counter
set_option maxRecDepth 20000 in
theorem ggX9_weigh_X0_weighBundle : GoodIn wsX9_weigh wsX0_weighBundle := goodIn_r _ [79, 80, 81, 25, 82, 83, 84, 28, 30, 85, 86, 87, 20, 88, 26, 23, 89, 72, 90, 91, 92, 93, 94, 22, 95, 96, 97, 98, 99, 100, 101, 102, 103, 104, 105, 106, 107, 108, 109, 110, 64, 111, 112, 113, 114, 115, 116, 117, 118, 119, 120, 121, 67, 122, 123, 124, 34, 125, 36, 37, 126, 127, 128, 129, 66, 130, 131, 132, 133, 134, 135, 136, 137, 138, 139, 140, 141, 142, 143, 144, 145, 146, 147, 148, 149, 150, 151, 152, 41, 153, 43, 154, 155, 156, 157, 158, 44, 45, 46, 47, 48, 197, 198, 188, 189, 190, 191, 192, 193, 194, 195, 196, 212, 213, 214, 199, 200, 201, 202, 203, 204] (by decide +kernel) (by decide +kernel)
set_option maxRecDepth 20000 in
theorem gX9_weigh_X0_weighBundle : GoodIn wsX9_weigh (wsV RX9 66 RX0 yX0_weighBundle wsX0_weighBundle) := goodIn_app (goodIn_of _ (by decide +kernel)) ggX9_weigh_X0_weighBundle
set_option maxRecDepth 20000 in
theorem ggX9_weigh_X3_settle : GoodIn wsX9_weigh wsX3_settle := goodIn_r _ [162, 163, 72, 164, 165, 166, 167, 168, 169, 170, 5, 171, 172, 173, 7, 174, 175, 176, 177, 89, 90, 181, 182, 183, 184] (by decide +kernel) (by decide +kernel)
set_option maxRecDepth 20000 in
theorem gX9_weigh_X3_settle : GoodIn wsX9_weigh (wsV RX9 43 RX3 yX3_settle wsX3_settle) := goodIn_app (goodIn_of _ (by decide +kernel)) ggX9_weigh_X3_settle
theorem dX9_weigh_0 : decode cX9_weigh 0 = .ok (.aload_n 0, 1) := by decide +kernel
theorem dX9_weigh_1 : decode cX9_weigh 1 = .ok (.getfield 10, 3) := by decide +kernel
theorem dX9_weigh_4 : decode cX9_weigh 4 = .ok (.invokevirtual 30, 3) := by decide +kernel
theorem dX9_weigh_7 : decode cX9_weigh 7 = .ok (.aload_n 0, 1) := by decide +kernel
theorem dX9_weigh_8 : decode cX9_weigh 8 = .ok (.getfield 10, 3) := by decide +kernel
theorem dX9_weigh_11 : decode cX9_weigh 11 = .ok (.aload_n 0, 1) := by decide +kernel
theorem dX9_weigh_12 : decode cX9_weigh 12 = .ok (.invokevirtual 33, 3) := by decide +kernel
theorem dX9_weigh_15 : decode cX9_weigh 15 = .ok (.iload_n 1, 1) := by decide +kernel
theorem dX9_weigh_16 : decode cX9_weigh 16 = .ok (.iload_n 2, 1) := by decide +kernel
theorem dX9_weigh_17 : decode cX9_weigh 17 = .ok (.iload_n 3, 1) := by decide +kernel
theorem dX9_weigh_18 : decode cX9_weigh 18 = .ok (.iload 4, 2) := by decide +kernel
theorem dX9_weigh_20 : decode cX9_weigh 20 = .ok (.invokevirtual 66, 3) := by decide +kernel
theorem dX9_weigh_23 : decode cX9_weigh 23 = .ok (.invokevirtual 43, 3) := by decide +kernel
theorem dX9_weigh_26 : decode cX9_weigh 26 = .ok (.ireturn, 1) := by decide +kernel
set_option maxRecDepth 20000 in
theorem ggX9_claim_X3_prepare : GoodIn wsX9_claim wsX3_prepare := goodIn_r _ [6, 7, 8, 9, 10, 11, 12, 13, 14, 15, 16, 17, 18, 19, 20, 21, 22, 23, 24, 25, 26, 27, 28, 29, 30, 31, 32, 33, 34, 35, 36, 37, 38, 39, 40, 41, 42, 43, 44, 45, 46, 47, 48, 49, 50, 51, 52, 53, 54, 55, 56, 57, 58, 59, 60, 61, 62, 63, 64, 65, 66, 67, 68, 173, 174, 175, 176, 177, 178, 179, 180, 181, 182, 183, 184, 185, 186, 187, 188, 189, 190, 191, 192, 193, 194, 195, 196, 197, 198, 199, 200, 201, 202, 203, 204, 205, 206] (by decide +kernel) (by decide +kernel)
set_option maxRecDepth 20000 in
theorem gX9_claim_X3_prepare : GoodIn wsX9_claim (wsV RX9 30 RX3 yX3_prepare wsX3_prepare) := goodIn_app (goodIn_of _ (by decide +kernel)) ggX9_claim_X3_prepare
set_option maxRecDepth 20000 in
theorem ggX9_claim_X9_counter : GoodIn wsX9_claim wsX9_counter := goodIn_r _ [73, 1, 74, 75, 170, 171, 172, 173, 174, 175, 176, 177, 178, 179] (by decide +kernel) (by decide +kernel)
set_option maxRecDepth 20000 in
theorem gX9_claim_X9_counter : GoodIn wsX9_claim (wsV RX9 33 RX9 yX9_counter wsX9_counter) := goodIn_app (goodIn_of _ (by decide +kernel)) ggX9_claim_X9_counter
set_option maxRecDepth 20000 in
theorem ggX9_claim_X0_settleClaim : GoodIn wsX9_claim wsX0_settleClaim := goodIn_r _ [79, 80, 81, 82, 83, 84, 85, 86, 30, 29, 87, 88, 89, 20, 90, 26, 23, 91, 72, 92, 93, 94, 95, 96, 22, 97, 98, 99, 100, 25, 101, 102, 103, 64, 104, 67, 105, 106, 107, 108, 109, 110, 111, 34, 112, 36, 37, 113, 114, 115, 116, 66, 117, 118, 119, 120, 121, 122, 123, 124, 125, 126, 127, 128, 129, 130, 131, 132, 133, 134, 135, 136, 137, 138, 139, 140, 141, 41, 142, 43, 143, 144, 145, 146, 147, 46, 148, 149, 150, 48, 191, 192, 193, 194, 195, 196, 180, 181, 182, 183, 184, 185, 186, 187, 188, 204, 205, 206, 189, 190] (by decide +kernel) (by decide +kernel)
set_option maxRecDepth 20000 in
theorem gX9_claim_X0_settleClaim : GoodIn wsX9_claim (wsV RX9 70 RX0 yX0_settleClaim wsX0_settleClaim) := goodIn_app (goodIn_of _ (by decide +kernel)) ggX9_claim_X0_settleClaim
set_option maxRecDepth 20000 in
theorem ggX9_claim_X3_settle : GoodIn wsX9_claim wsX3_settle := goodIn_r _ [154, 155, 72, 156, 157, 158, 159, 160, 161, 162, 5, 163, 164, 165, 7, 166, 167, 168, 169, 91, 92, 173, 174, 175, 176] (by decide +kernel) (by decide +kernel)
set_option maxRecDepth 20000 in
theorem gX9_claim_X3_settle : GoodIn wsX9_claim (wsV RX9 43 RX3 yX3_settle wsX3_settle) := goodIn_app (goodIn_of _ (by decide +kernel)) ggX9_claim_X3_settle
theorem dX9_claim_0 : decode cX9_claim 0 = .ok (.aload_n 0, 1) := by decide +kernel
theorem dX9_claim_1 : decode cX9_claim 1 = .ok (.getfield 10, 3) := by decide +kernel
theorem dX9_claim_4 : decode cX9_claim 4 = .ok (.invokevirtual 30, 3) := by decide +kernel
theorem dX9_claim_7 : decode cX9_claim 7 = .ok (.aload_n 0, 1) := by decide +kernel
theorem dX9_claim_8 : decode cX9_claim 8 = .ok (.getfield 10, 3) := by decide +kernel
theorem dX9_claim_11 : decode cX9_claim 11 = .ok (.aload_n 0, 1) := by decide +kernel
theorem dX9_claim_12 : decode cX9_claim 12 = .ok (.invokevirtual 33, 3) := by decide +kernel
theorem dX9_claim_15 : decode cX9_claim 15 = .ok (.iload_n 1, 1) := by decide +kernel
theorem dX9_claim_16 : decode cX9_claim 16 = .ok (.iload_n 2, 1) := by decide +kernel
theorem dX9_claim_17 : decode cX9_claim 17 = .ok (.invokevirtual 70, 3) := by decide +kernel
theorem dX9_claim_20 : decode cX9_claim 20 = .ok (.invokevirtual 43, 3) := by decide +kernel
theorem dX9_claim_23 : decode cX9_claim 23 = .ok (.ireturn, 1) := by decide +kernel
set_option maxRecDepth 20000 in
theorem ggX9_addPrize_X3_prepare : GoodIn wsX9_addPrize wsX3_prepare := goodIn_r _ [6, 7, 8, 9, 10, 11, 12, 13, 14, 15, 16, 17, 18, 19, 20, 21, 22, 23, 24, 25, 26, 27, 28, 29, 30, 31, 32, 33, 34, 35, 36, 37, 38, 39, 40, 41, 42, 43, 44, 45, 46, 47, 48, 49, 50, 51, 52, 53, 54, 55, 56, 57, 58, 59, 60, 61, 62, 63, 64, 65, 66, 67, 68, 111, 112, 113, 114, 115, 116, 117, 118, 119, 120, 121, 122, 123, 124, 125, 126, 127, 128, 129, 130, 131, 132, 133, 134, 135, 136, 137, 138, 139, 140, 141, 142, 143, 144] (by decide +kernel) (by decide +kernel)
set_option maxRecDepth 20000 in
theorem gX9_addPrize_X3_prepare : GoodIn wsX9_addPrize (wsV RX9 30 RX3 yX3_prepare wsX3_prepare) := goodIn_app (goodIn_of _ (by decide +kernel)) ggX9_addPrize_X3_prepare
set_option maxRecDepth 20000 in
theorem ggX9_addPrize_X9_counter : GoodIn wsX9_addPrize wsX9_counter := goodIn_r _ [73, 1, 74, 75, 108, 109, 110, 111, 112, 113, 114, 115, 116, 117] (by decide +kernel) (by decide +kernel)
set_option maxRecDepth 20000 in
theorem gX9_addPrize_X9_counter : GoodIn wsX9_addPrize (wsV RX9 33 RX9 yX9_counter wsX9_counter) := goodIn_app (goodIn_of _ (by decide +kernel)) ggX9_addPrize_X9_counter
set_option maxRecDepth 20000 in
theorem ggX9_addPrize_X0_placePrize : GoodIn wsX9_addPrize wsX0_placePrize := goodIn_r _ [79, 80, 81, 27, 82, 24, 83, 72, 84, 85, 86, 87, 52, 88, 54, 55, 56, 57, 58, 59, 60, 118, 119, 120, 121, 122, 123, 124, 125, 126, 135, 136, 137, 138, 139, 140, 141] (by decide +kernel) (by decide +kernel)
set_option maxRecDepth 20000 in
theorem gX9_addPrize_X0_placePrize : GoodIn wsX9_addPrize (wsV RX9 73 RX0 yX0_placePrize wsX0_placePrize) := goodIn_app (goodIn_of _ (by decide +kernel)) ggX9_addPrize_X0_placePrize
set_option maxRecDepth 20000 in
theorem ggX9_addPrize_X3_settle : GoodIn wsX9_addPrize wsX3_settle := goodIn_r _ [92, 93, 72, 94, 95, 96, 97, 98, 99, 100, 5, 101, 102, 103, 7, 104, 105, 106, 107, 83, 84, 111, 112, 113, 114] (by decide +kernel) (by decide +kernel)
set_option maxRecDepth 20000 in
theorem gX9_addPrize_X3_settle : GoodIn wsX9_addPrize (wsV RX9 43 RX3 yX3_settle wsX3_settle) := goodIn_app (goodIn_of _ (by decide +kernel)) ggX9_addPrize_X3_settle
theorem dX9_addPrize_0 : decode cX9_addPrize 0 = .ok (.aload_n 0, 1) := by decide +kernel
theorem dX9_addPrize_1 : decode cX9_addPrize 1 = .ok (.getfield 10, 3) := by decide +kernel
theorem dX9_addPrize_4 : decode cX9_addPrize 4 = .ok (.invokevirtual 30, 3) := by decide +kernel
theorem dX9_addPrize_7 : decode cX9_addPrize 7 = .ok (.aload_n 0, 1) := by decide +kernel
theorem dX9_addPrize_8 : decode cX9_addPrize 8 = .ok (.getfield 10, 3) := by decide +kernel
theorem dX9_addPrize_11 : decode cX9_addPrize 11 = .ok (.aload_n 0, 1) := by decide +kernel
theorem dX9_addPrize_12 : decode cX9_addPrize 12 = .ok (.invokevirtual 33, 3) := by decide +kernel
theorem dX9_addPrize_15 : decode cX9_addPrize 15 = .ok (.iload_n 1, 1) := by decide +kernel
theorem dX9_addPrize_16 : decode cX9_addPrize 16 = .ok (.iload_n 2, 1) := by decide +kernel
theorem dX9_addPrize_17 : decode cX9_addPrize 17 = .ok (.iload_n 3, 1) := by decide +kernel
theorem dX9_addPrize_18 : decode cX9_addPrize 18 = .ok (.iload 4, 2) := by decide +kernel
theorem dX9_addPrize_20 : decode cX9_addPrize 20 = .ok (.iload 5, 2) := by decide +kernel
theorem dX9_addPrize_22 : decode cX9_addPrize 22 = .ok (.invokevirtual 73, 3) := by decide +kernel
theorem dX9_addPrize_25 : decode cX9_addPrize 25 = .ok (.invokevirtual 43, 3) := by decide +kernel
theorem dX9_addPrize_28 : decode cX9_addPrize 28 = .ok (.ireturn, 1) := by decide +kernel
set_option maxRecDepth 20000 in
theorem ggX9_removePrize_X3_prepare : GoodIn wsX9_removePrize wsX3_prepare := goodIn_r _ [6, 7, 8, 9, 10, 11, 12, 13, 14, 15, 16, 17, 18, 19, 20, 21, 22, 23, 24, 25, 26, 27, 28, 29, 30, 31, 32, 33, 34, 35, 36, 37, 38, 39, 40, 41, 42, 43, 44, 45, 46, 47, 48, 49, 50, 51, 52, 53, 54, 55, 56, 57, 58, 59, 60, 61, 62, 63, 64, 65, 66, 67, 68, 114, 115, 116, 117, 118, 119, 120, 121, 122, 123, 124, 125, 126, 127, 128, 129, 130, 131, 132, 133, 134, 135, 136, 137, 138, 139, 140, 141, 142, 143, 144, 145, 146, 147] (by decide +kernel) (by decide +kernel)
set_option maxRecDepth 20000 in
theorem gX9_removePrize_X3_prepare : GoodIn wsX9_removePrize (wsV RX9 30 RX3 yX3_prepare wsX3_prepare) := goodIn_app (goodIn_of _ (by decide +kernel)) ggX9_removePrize_X3_prepare
set_option maxRecDepth 20000 in
theorem ggX9_removePrize_X9_counter : GoodIn wsX9_removePrize wsX9_counter := goodIn_r _ [73, 1, 74, 75, 111, 112, 113, 114, 115, 116, 117, 118, 119, 120] (by decide +kernel) (by decide +kernel)
set_option maxRecDepth 20000 in
theorem gX9_removePrize_X9_counter : GoodIn wsX9_removePrize (wsV RX9 33 RX9 yX9_counter wsX9_counter) := goodIn_app (goodIn_of _ (by decide +kernel)) ggX9_removePrize_X9_counter
set_option maxRecDepth 20000 in
theorem ggX9_removePrize_X0_dropPrize : GoodIn wsX9_removePrize wsX0_dropPrize := goodIn_r _ [79, 80, 81, 24, 27, 82, 83, 84, 20, 85, 86, 72, 87, 88, 89, 90, 52, 91, 54, 55, 56, 57, 58, 59, 60, 138, 139, 140, 141, 142, 143, 144, 121, 122, 123, 124, 125, 126, 127, 128, 129] (by decide +kernel) (by decide +kernel)
set_option maxRecDepth 20000 in
theorem gX9_removePrize_X0_dropPrize : GoodIn wsX9_removePrize (wsV RX9 77 RX0 yX0_dropPrize wsX0_dropPrize) := goodIn_app (goodIn_of _ (by decide +kernel)) ggX9_removePrize_X0_dropPrize
set_option maxRecDepth 20000 in
theorem ggX9_removePrize_X3_settle : GoodIn wsX9_removePrize wsX3_settle := goodIn_r _ [95, 96, 72, 97, 98, 99, 100, 101, 102, 103, 5, 104, 105, 106, 7, 107, 108, 109, 110, 86, 87, 114, 115, 116, 117] (by decide +kernel) (by decide +kernel)
set_option maxRecDepth 20000 in
theorem gX9_removePrize_X3_settle : GoodIn wsX9_removePrize (wsV RX9 43 RX3 yX3_settle wsX3_settle) := goodIn_app (goodIn_of _ (by decide +kernel)) ggX9_removePrize_X3_settle
theorem dX9_removePrize_0 : decode cX9_removePrize 0 = .ok (.aload_n 0, 1) := by decide +kernel
theorem dX9_removePrize_1 : decode cX9_removePrize 1 = .ok (.getfield 10, 3) := by decide +kernel
theorem dX9_removePrize_4 : decode cX9_removePrize 4 = .ok (.invokevirtual 30, 3) := by decide +kernel
theorem dX9_removePrize_7 : decode cX9_removePrize 7 = .ok (.aload_n 0, 1) := by decide +kernel
theorem dX9_removePrize_8 : decode cX9_removePrize 8 = .ok (.getfield 10, 3) := by decide +kernel
theorem dX9_removePrize_11 : decode cX9_removePrize 11 = .ok (.aload_n 0, 1) := by decide +kernel
theorem dX9_removePrize_12 : decode cX9_removePrize 12 = .ok (.invokevirtual 33, 3) := by decide +kernel
theorem dX9_removePrize_15 : decode cX9_removePrize 15 = .ok (.iload_n 1, 1) := by decide +kernel
theorem dX9_removePrize_16 : decode cX9_removePrize 16 = .ok (.invokevirtual 77, 3) := by decide +kernel
theorem dX9_removePrize_19 : decode cX9_removePrize 19 = .ok (.invokevirtual 43, 3) := by decide +kernel
theorem dX9_removePrize_22 : decode cX9_removePrize 22 = .ok (.ireturn, 1) := by decide +kernel
set_option maxRecDepth 20000 in
theorem ggX9_setPrice_X3_prepare : GoodIn wsX9_setPrice wsX3_prepare := goodIn_r _ [6, 7, 8, 9, 10, 11, 12, 13, 14, 15, 16, 17, 18, 19, 20, 21, 22, 23, 24, 25, 26, 27, 28, 29, 30, 31, 32, 33, 34, 35, 36, 37, 38, 39, 40, 41, 42, 43, 44, 45, 46, 47, 48, 49, 50, 51, 52, 53, 54, 55, 56, 57, 58, 59, 60, 61, 62, 63, 64, 65, 66, 67, 68, 110, 111, 112, 113, 114, 115, 116, 117, 118, 119, 120, 121, 122, 123, 124, 125, 126, 127, 128, 129, 130, 131, 132, 133, 134, 135, 136, 137, 138, 139, 140, 141, 142, 143] (by decide +kernel) (by decide +kernel)
set_option maxRecDepth 20000 in
theorem gX9_setPrice_X3_prepare : GoodIn wsX9_setPrice (wsV RX9 30 RX3 yX3_prepare wsX3_prepare) := goodIn_app (goodIn_of _ (by decide +kernel)) ggX9_setPrice_X3_prepare
set_option maxRecDepth 20000 in
theorem ggX9_setPrice_X9_counter : GoodIn wsX9_setPrice wsX9_counter := goodIn_r _ [73, 1, 74, 75, 107, 108, 109, 110, 111, 112, 113, 114, 115, 116] (by decide +kernel) (by decide +kernel)
set_option maxRecDepth 20000 in
theorem gX9_setPrice_X9_counter : GoodIn wsX9_setPrice (wsV RX9 33 RX9 yX9_counter wsX9_counter) := goodIn_app (goodIn_of _ (by decide +kernel)) ggX9_setPrice_X9_counter
set_option maxRecDepth 20000 in
theorem ggX9_setPrice_X0_changePrice : GoodIn wsX9_setPrice wsX0_changePrice := goodIn_r _ [79, 80, 81, 82, 83, 84, 20, 85, 27, 24, 86, 72, 87, 134, 135, 136, 137, 138, 139, 140, 117, 118, 119, 120, 121, 122, 123, 124, 125] (by decide +kernel) (by decide +kernel)
set_option maxRecDepth 20000 in
theorem gX9_setPrice_X0_changePrice : GoodIn wsX9_setPrice (wsV RX9 80 RX0 yX0_changePrice wsX0_changePrice) := goodIn_app (goodIn_of _ (by decide +kernel)) ggX9_setPrice_X0_changePrice
set_option maxRecDepth 20000 in
theorem ggX9_setPrice_X3_settle : GoodIn wsX9_setPrice wsX3_settle := goodIn_r _ [91, 92, 72, 93, 94, 95, 96, 97, 98, 99, 5, 100, 101, 102, 7, 103, 104, 105, 106, 86, 87, 110, 111, 112, 113] (by decide +kernel) (by decide +kernel)
set_option maxRecDepth 20000 in
theorem gX9_setPrice_X3_settle : GoodIn wsX9_setPrice (wsV RX9 43 RX3 yX3_settle wsX3_settle) := goodIn_app (goodIn_of _ (by decide +kernel)) ggX9_setPrice_X3_settle
theorem dX9_setPrice_0 : decode cX9_setPrice 0 = .ok (.aload_n 0, 1) := by decide +kernel
theorem dX9_setPrice_1 : decode cX9_setPrice 1 = .ok (.getfield 10, 3) := by decide +kernel
theorem dX9_setPrice_4 : decode cX9_setPrice 4 = .ok (.invokevirtual 30, 3) := by decide +kernel
theorem dX9_setPrice_7 : decode cX9_setPrice 7 = .ok (.aload_n 0, 1) := by decide +kernel
theorem dX9_setPrice_8 : decode cX9_setPrice 8 = .ok (.getfield 10, 3) := by decide +kernel
theorem dX9_setPrice_11 : decode cX9_setPrice 11 = .ok (.aload_n 0, 1) := by decide +kernel
theorem dX9_setPrice_12 : decode cX9_setPrice 12 = .ok (.invokevirtual 33, 3) := by decide +kernel
theorem dX9_setPrice_15 : decode cX9_setPrice 15 = .ok (.iload_n 1, 1) := by decide +kernel
theorem dX9_setPrice_16 : decode cX9_setPrice 16 = .ok (.iload_n 2, 1) := by decide +kernel
theorem dX9_setPrice_17 : decode cX9_setPrice 17 = .ok (.invokevirtual 80, 3) := by decide +kernel
theorem dX9_setPrice_20 : decode cX9_setPrice 20 = .ok (.invokevirtual 43, 3) := by decide +kernel
theorem dX9_setPrice_23 : decode cX9_setPrice 23 = .ok (.ireturn, 1) := by decide +kernel
set_option maxRecDepth 20000 in
theorem ggX9_buy_X3_prepare : GoodIn wsX9_buy wsX3_prepare := goodIn_r _ [6, 7, 8, 9, 10, 11, 12, 13, 14, 15, 16, 17, 18, 19, 20, 21, 22, 23, 24, 25, 26, 27, 28, 29, 30, 31, 32, 33, 34, 35, 36, 37, 38, 39, 40, 41, 42, 43, 44, 45, 46, 47, 48, 49, 50, 51, 52, 53, 54, 55, 56, 57, 58, 59, 60, 61, 62, 63, 64, 65, 66, 67, 68, 132, 133, 134, 135, 136, 137, 138, 139, 140, 141, 142, 143, 144, 145, 146, 147, 148, 149, 150, 151, 152, 153, 154, 155, 156, 157, 158, 159, 160, 161, 162, 163, 164, 165] (by decide +kernel) (by decide +kernel)
set_option maxRecDepth 20000 in
theorem gX9_buy_X3_prepare : GoodIn wsX9_buy (wsV RX9 30 RX3 yX3_prepare wsX3_prepare) := goodIn_app (goodIn_of _ (by decide +kernel)) ggX9_buy_X3_prepare
set_option maxRecDepth 20000 in
theorem ggX9_buy_X9_counter : GoodIn wsX9_buy wsX9_counter := goodIn_r _ [73, 1, 74, 75, 129, 130, 131, 132, 133, 134, 135, 136, 137, 138] (by decide +kernel) (by decide +kernel)
set_option maxRecDepth 20000 in
theorem gX9_buy_X9_counter : GoodIn wsX9_buy (wsV RX9 33 RX9 yX9_counter wsX9_counter) := goodIn_app (goodIn_of _ (by decide +kernel)) ggX9_buy_X9_counter
set_option maxRecDepth 20000 in
theorem ggX9_buy_X0_sellPrize : GoodIn wsX9_buy wsX0_sellPrize := goodIn_r _ [79, 80, 81, 82, 83, 84, 85, 86, 87, 88, 20, 89, 26, 23, 90, 72, 91, 92, 93, 94, 95, 27, 24, 96, 97, 98, 52, 99, 56, 59, 55, 57, 60, 58, 100, 101, 102, 103, 104, 105, 106, 107, 108, 109, 150, 151, 152, 153, 154, 155, 156, 157, 158, 159, 160, 161, 162, 139, 140, 141, 142, 143, 144, 145, 146, 147] (by decide +kernel) (by decide +kernel)
set_option maxRecDepth 20000 in
theorem gX9_buy_X0_sellPrize : GoodIn wsX9_buy (wsV RX9 83 RX0 yX0_sellPrize wsX0_sellPrize) := goodIn_app (goodIn_of _ (by decide +kernel)) ggX9_buy_X0_sellPrize
set_option maxRecDepth 20000 in
theorem ggX9_buy_X3_settle : GoodIn wsX9_buy wsX3_settle := goodIn_r _ [113, 114, 72, 115, 116, 117, 118, 119, 120, 121, 5, 122, 123, 124, 7, 125, 126, 127, 128, 90, 91, 132, 133, 134, 135] (by decide +kernel) (by decide +kernel)
set_option maxRecDepth 20000 in
theorem gX9_buy_X3_settle : GoodIn wsX9_buy (wsV RX9 43 RX3 yX3_settle wsX3_settle) := goodIn_app (goodIn_of _ (by decide +kernel)) ggX9_buy_X3_settle
theorem dX9_buy_0 : decode cX9_buy 0 = .ok (.aload_n 0, 1) := by decide +kernel
theorem dX9_buy_1 : decode cX9_buy 1 = .ok (.getfield 10, 3) := by decide +kernel
theorem dX9_buy_4 : decode cX9_buy 4 = .ok (.invokevirtual 30, 3) := by decide +kernel
theorem dX9_buy_7 : decode cX9_buy 7 = .ok (.aload_n 0, 1) := by decide +kernel
theorem dX9_buy_8 : decode cX9_buy 8 = .ok (.getfield 10, 3) := by decide +kernel
theorem dX9_buy_11 : decode cX9_buy 11 = .ok (.aload_n 0, 1) := by decide +kernel
theorem dX9_buy_12 : decode cX9_buy 12 = .ok (.invokevirtual 33, 3) := by decide +kernel
theorem dX9_buy_15 : decode cX9_buy 15 = .ok (.iload_n 1, 1) := by decide +kernel
theorem dX9_buy_16 : decode cX9_buy 16 = .ok (.iload_n 2, 1) := by decide +kernel
theorem dX9_buy_17 : decode cX9_buy 17 = .ok (.iload_n 3, 1) := by decide +kernel
theorem dX9_buy_18 : decode cX9_buy 18 = .ok (.invokevirtual 83, 3) := by decide +kernel
theorem dX9_buy_21 : decode cX9_buy 21 = .ok (.invokevirtual 43, 3) := by decide +kernel
theorem dX9_buy_24 : decode cX9_buy 24 = .ok (.ireturn, 1) := by decide +kernel
set_option maxRecDepth 20000 in
theorem ggX9_take_X3_prepare : GoodIn wsX9_take wsX3_prepare := goodIn_r _ [7, 8, 9, 10, 11, 12, 13, 14, 15, 16, 17, 18, 19, 20, 21, 22, 23, 24, 25, 26, 27, 28, 29, 30, 31, 32, 33, 34, 35, 36, 37, 38, 39, 40, 41, 42, 43, 44, 45, 46, 47, 48, 49, 50, 51, 52, 53, 54, 55, 56, 57, 58, 59, 60, 61, 62, 63, 64, 65, 66, 67, 68, 69, 105, 106, 107, 108, 109, 110, 111, 112, 113, 114, 115, 116, 117, 118, 119, 120, 121, 122, 123, 124, 125, 126, 127, 128, 129, 130, 131, 132, 133, 134, 135, 136, 137, 138] (by decide +kernel) (by decide +kernel)
set_option maxRecDepth 20000 in
theorem gX9_take_X3_prepare : GoodIn wsX9_take (wsV RX9 30 RX3 yX3_prepare wsX3_prepare) := goodIn_app (goodIn_of _ (by decide +kernel)) ggX9_take_X3_prepare
set_option maxRecDepth 20000 in
theorem ggX9_take_X8_fillSlot : GoodIn wsX9_take wsX8_fillSlot := goodIn_r _ [73, 74, 17, 15, 16, 75, 76, 77, 18, 19, 20, 21, 22, 23, 24, 25, 26, 27, 28, 29, 30, 31, 32, 33, 34, 35, 36, 37, 38, 39, 40, 41, 42, 43, 44, 45, 46, 47, 48, 49, 50, 51, 52, 53, 54, 55, 56, 57, 58, 59, 60, 61, 62, 63, 64, 65, 66, 67, 68, 69, 78, 79, 80, 81, 82, 109, 110, 111, 112, 113, 114, 115, 116, 117, 118, 119, 120, 121, 122, 123, 124, 125, 126, 127, 128, 129, 130, 131, 132, 133, 134, 135, 136, 137, 138] (by decide +kernel) (by decide +kernel)
set_option maxRecDepth 20000 in
theorem gX9_take_X8_fillSlot : GoodIn wsX9_take (wsV RX9 90 RX8 yX8_fillSlot wsX8_fillSlot) := goodIn_app (goodIn_of _ (by decide +kernel)) ggX9_take_X8_fillSlot
set_option maxRecDepth 20000 in
theorem ggX9_take_X3_settle : GoodIn wsX9_take wsX3_settle := goodIn_r _ [86, 87, 76, 88, 89, 90, 91, 92, 93, 94, 6, 95, 96, 97, 8, 98, 99, 100, 101, 75, 77, 105, 106, 107, 108] (by decide +kernel) (by decide +kernel)
set_option maxRecDepth 20000 in
theorem gX9_take_X3_settle : GoodIn wsX9_take (wsV RX9 43 RX3 yX3_settle wsX3_settle) := goodIn_app (goodIn_of _ (by decide +kernel)) ggX9_take_X3_settle
theorem dX9_take_0 : decode cX9_take 0 = .ok (.aload_n 0, 1) := by decide +kernel
theorem dX9_take_1 : decode cX9_take 1 = .ok (.getfield 10, 3) := by decide +kernel
theorem dX9_take_4 : decode cX9_take 4 = .ok (.invokevirtual 30, 3) := by decide +kernel
theorem dX9_take_7 : decode cX9_take 7 = .ok (.aload_n 0, 1) := by decide +kernel
theorem dX9_take_8 : decode cX9_take 8 = .ok (.getfield 10, 3) := by decide +kernel
theorem dX9_take_11 : decode cX9_take 11 = .ok (.aload_n 0, 1) := by decide +kernel
theorem dX9_take_12 : decode cX9_take 12 = .ok (.getfield 10, 3) := by decide +kernel
theorem dX9_take_15 : decode cX9_take 15 = .ok (.getfield 86, 3) := by decide +kernel
theorem dX9_take_18 : decode cX9_take 18 = .ok (.iload_n 1, 1) := by decide +kernel
theorem dX9_take_19 : decode cX9_take 19 = .ok (.invokevirtual 90, 3) := by decide +kernel
theorem dX9_take_22 : decode cX9_take 22 = .ok (.invokevirtual 43, 3) := by decide +kernel
theorem dX9_take_25 : decode cX9_take 25 = .ok (.ireturn, 1) := by decide +kernel
set_option maxRecDepth 20000 in
theorem ggX9_restore_X3_prepare : GoodIn wsX9_restore wsX3_prepare := goodIn_r _ [7, 8, 9, 10, 11, 12, 13, 14, 15, 16, 17, 18, 19, 20, 21, 22, 23, 24, 25, 26, 27, 28, 29, 30, 31, 32, 33, 34, 35, 36, 37, 38, 39, 40, 41, 42, 43, 44, 45, 46, 47, 48, 49, 50, 51, 52, 53, 54, 55, 56, 57, 58, 59, 60, 61, 62, 63, 64, 65, 66, 67, 68, 69, 106, 107, 108, 109, 110, 111, 112, 113, 114, 115, 116, 117, 118, 119, 120, 121, 122, 123, 124, 125, 126, 127, 128, 129, 130, 131, 132, 133, 134, 135, 136, 137, 138, 139] (by decide +kernel) (by decide +kernel)
set_option maxRecDepth 20000 in
theorem gX9_restore_X3_prepare : GoodIn wsX9_restore (wsV RX9 30 RX3 yX3_prepare wsX3_prepare) := goodIn_app (goodIn_of _ (by decide +kernel)) ggX9_restore_X3_prepare
set_option maxRecDepth 20000 in
theorem ggX9_restore_X8_useSlot : GoodIn wsX9_restore wsX8_useSlot := goodIn_r _ [73, 74, 16, 75, 15, 17, 76, 77, 78, 18, 19, 20, 21, 22, 23, 24, 25, 26, 27, 28, 29, 30, 31, 32, 33, 34, 35, 36, 37, 38, 39, 40, 41, 42, 43, 44, 45, 46, 47, 48, 49, 50, 51, 52, 53, 54, 55, 56, 57, 58, 59, 60, 61, 62, 63, 64, 65, 66, 67, 68, 69, 79, 80, 81, 82, 83, 110, 111, 112, 113, 114, 115, 116, 117, 118, 119, 120, 121, 122, 123, 124, 125, 126, 127, 128, 129, 130, 131, 132, 133, 134, 135, 136, 137, 138, 139] (by decide +kernel) (by decide +kernel)
set_option maxRecDepth 20000 in
theorem gX9_restore_X8_useSlot : GoodIn wsX9_restore (wsV RX9 95 RX8 yX8_useSlot wsX8_useSlot) := goodIn_app (goodIn_of _ (by decide +kernel)) ggX9_restore_X8_useSlot
set_option maxRecDepth 20000 in
theorem ggX9_restore_X3_settle : GoodIn wsX9_restore wsX3_settle := goodIn_r _ [87, 88, 77, 89, 90, 91, 92, 93, 94, 95, 6, 96, 97, 98, 8, 99, 100, 101, 102, 76, 78, 106, 107, 108, 109] (by decide +kernel) (by decide +kernel)
set_option maxRecDepth 20000 in
theorem gX9_restore_X3_settle : GoodIn wsX9_restore (wsV RX9 43 RX3 yX3_settle wsX3_settle) := goodIn_app (goodIn_of _ (by decide +kernel)) ggX9_restore_X3_settle
theorem dX9_restore_0 : decode cX9_restore 0 = .ok (.aload_n 0, 1) := by decide +kernel
theorem dX9_restore_1 : decode cX9_restore 1 = .ok (.getfield 10, 3) := by decide +kernel
theorem dX9_restore_4 : decode cX9_restore 4 = .ok (.invokevirtual 30, 3) := by decide +kernel
theorem dX9_restore_7 : decode cX9_restore 7 = .ok (.aload_n 0, 1) := by decide +kernel
theorem dX9_restore_8 : decode cX9_restore 8 = .ok (.getfield 10, 3) := by decide +kernel
theorem dX9_restore_11 : decode cX9_restore 11 = .ok (.aload_n 0, 1) := by decide +kernel
theorem dX9_restore_12 : decode cX9_restore 12 = .ok (.getfield 10, 3) := by decide +kernel
theorem dX9_restore_15 : decode cX9_restore 15 = .ok (.getfield 86, 3) := by decide +kernel
theorem dX9_restore_18 : decode cX9_restore 18 = .ok (.iload_n 1, 1) := by decide +kernel
theorem dX9_restore_19 : decode cX9_restore 19 = .ok (.invokevirtual 95, 3) := by decide +kernel
theorem dX9_restore_22 : decode cX9_restore 22 = .ok (.invokevirtual 43, 3) := by decide +kernel
theorem dX9_restore_25 : decode cX9_restore 25 = .ok (.ireturn, 1) := by decide +kernel
set_option maxRecDepth 20000 in
theorem ggX9_undo_X3_stepBack : GoodIn wsX9_undo wsX3_stepBack := goodIn_r _ [6, 7, 8, 9, 10, 11, 12, 13, 17, 18, 19, 20] (by decide +kernel) (by decide +kernel)
set_option maxRecDepth 20000 in
theorem gX9_undo_X3_stepBack : GoodIn wsX9_undo (wsV RX9 98 RX3 yX3_stepBack wsX3_stepBack) := goodIn_app (goodIn_of _ (by decide +kernel)) ggX9_undo_X3_stepBack
theorem dX9_undo_0 : decode cX9_undo 0 = .ok (.aload_n 0, 1) := by decide +kernel
theorem dX9_undo_1 : decode cX9_undo 1 = .ok (.getfield 10, 3) := by decide +kernel
theorem dX9_undo_4 : decode cX9_undo 4 = .ok (.invokevirtual 98, 3) := by decide +kernel
theorem dX9_undo_7 : decode cX9_undo 7 = .ok (.ireturn, 1) := by decide +kernel
set_option maxRecDepth 20000 in
theorem ggX9_append_X6_addSign : GoodIn wsX9_append wsX6_addSign := goodIn_r _ [6, 7, 8, 9, 10, 11, 12, 13, 17, 18, 19, 20, 21, 22] (by decide +kernel) (by decide +kernel)
set_option maxRecDepth 20000 in
theorem gX9_append_X6_addSign : GoodIn wsX9_append (wsV RX9 102 RX6 yX6_addSign wsX6_addSign) := goodIn_app (goodIn_of _ (by decide +kernel)) ggX9_append_X6_addSign
theorem dX9_append_0 : decode cX9_append 0 = .ok (.aload_n 0, 1) := by decide +kernel
theorem dX9_append_1 : decode cX9_append 1 = .ok (.getfield 19, 3) := by decide +kernel
theorem dX9_append_4 : decode cX9_append 4 = .ok (.iload_n 1, 1) := by decide +kernel
theorem dX9_append_5 : decode cX9_append 5 = .ok (.invokevirtual 102, 3) := by decide +kernel
theorem dX9_append_8 : decode cX9_append 8 = .ok (.ireturn, 1) := by decide +kernel
set_option maxRecDepth 20000 in
theorem ggX9_clearText_X6_emptyText : GoodIn wsX9_clearText wsX6_emptyText := goodIn_r _ [6, 7, 11, 12, 13, 14, 15, 16] (by decide +kernel) (by decide +kernel)
set_option maxRecDepth 20000 in
theorem gX9_clearText_X6_emptyText : GoodIn wsX9_clearText (wsV RX9 105 RX6 yX6_emptyText wsX6_emptyText) := goodIn_app (goodIn_of _ (by decide +kernel)) ggX9_clearText_X6_emptyText
theorem dX9_clearText_0 : decode cX9_clearText 0 = .ok (.aload_n 0, 1) := by decide +kernel
theorem dX9_clearText_1 : decode cX9_clearText 1 = .ok (.getfield 19, 3) := by decide +kernel
theorem dX9_clearText_4 : decode cX9_clearText 4 = .ok (.invokevirtual 105, 3) := by decide +kernel
theorem dX9_clearText_7 : decode cX9_clearText 7 = .ok (.ireturn, 1) := by decide +kernel
set_option maxRecDepth 20000 in
theorem ggX9_run_X3_prepare : GoodIn wsX9_run wsX3_prepare := goodIn_r _ [7, 8, 9, 10, 11, 12, 13, 14, 15, 16, 17, 18, 19, 20, 21, 22, 23, 24, 25, 26, 27, 28, 29, 30, 31, 32, 33, 34, 35, 36, 37, 38, 39, 40, 41, 42, 43, 44, 45, 46, 47, 48, 49, 50, 51, 52, 53, 54, 55, 56, 57, 58, 59, 60, 61, 62, 63, 64, 65, 66, 67, 68, 69, 379, 380, 381, 382, 383, 384, 385, 386, 387, 388, 389, 390, 391, 392, 393, 394, 395, 396, 397, 398, 399, 400, 401, 402, 403, 404, 405, 406, 407, 408, 409, 410, 411, 412] (by decide +kernel) (by decide +kernel)
set_option maxRecDepth 20000 in
theorem gX9_run_X3_prepare : GoodIn wsX9_run (wsV RX9 30 RX3 yX3_prepare wsX3_prepare) := goodIn_app (goodIn_of _ (by decide +kernel)) ggX9_run_X3_prepare
set_option maxRecDepth 20000 in
theorem ggX9_run_X9_counter : GoodIn wsX9_run wsX9_counter := goodIn_r _ [74, 1, 75, 76, 376, 377, 378, 379, 380, 381, 382, 383, 384, 385] (by decide +kernel) (by decide +kernel)
set_option maxRecDepth 20000 in
theorem gX9_run_X9_counter : GoodIn wsX9_run (wsV RX9 33 RX9 yX9_counter wsX9_counter) := goodIn_app (goodIn_of _ (by decide +kernel)) ggX9_run_X9_counter
set_option maxRecDepth 20000 in
theorem ggX9_run_X6_runOn : GoodIn wsX9_run wsX6_runOn := goodIn_r _ [81, 82, 83, 84, 85, 86, 87, 88, 89, 80, 90, 91, 92, 93, 94, 95, 96, 73, 97, 98, 99, 100, 101, 102, 103, 104, 105, 106, 107, 108, 109, 110, 111, 112, 113, 114, 115, 116, 117, 118, 119, 120, 121, 122, 123, 124, 125, 126, 127, 128, 129, 130, 131, 132, 133, 134, 135, 136, 137, 138, 139, 140, 141, 142, 143, 144, 145, 146, 147, 148, 149, 150, 151, 152, 153, 154, 155, 156, 157, 158, 159, 160, 161, 162, 163, 164, 165, 166, 167, 168, 169, 170, 171, 172, 173, 174, 175, 176, 177, 178, 179, 180, 181, 182, 183, 184, 185, 186, 187, 188, 189, 190, 191, 192, 193, 194, 195, 196, 197, 198, 21, 199, 200, 201, 202, 203, 204, 205, 206, 23, 207, 208, 209, 210, 26, 211, 212, 213, 214, 215, 216, 217, 218, 219, 220, 221, 222, 223, 224, 29, 225, 226, 227, 228, 27, 229, 24, 230, 231, 232, 42, 233, 44, 45, 234, 235, 236, 237, 238, 28, 25, 239, 240, 241, 53, 242, 55, 56, 57, 58, 59, 60, 61, 243, 244, 245, 246, 31, 247, 248, 249, 250, 251, 252, 253, 254, 255, 256, 257, 258, 259, 260, 261, 262, 263, 65, 264, 265, 266, 267, 268, 269, 270, 271, 272, 68, 273, 274, 275, 35, 276, 37, 38, 277, 278, 279, 280, 67, 281, 282, 283, 284, 285, 286, 287, 288, 289, 290, 291, 292, 293, 294, 295, 296, 297, 298, 299, 300, 301, 302, 303, 304, 305, 306, 307, 308, 309, 46, 47, 48, 49, 310, 311, 312, 313, 314, 315, 316, 317, 318, 319, 30, 320, 321, 322, 323, 324, 325, 326, 327, 328, 329, 330, 331, 332, 333, 334, 335, 336, 337, 338, 339, 340, 341, 342, 343, 344, 345, 346, 347, 348, 349, 350, 351, 352, 353, 413, 414, 415, 416, 417, 418, 419, 420, 421, 422, 395, 396, 386, 387, 388, 389, 390, 391, 392, 393, 394, 410, 411, 412, 397, 398, 399, 400, 401, 402, 403, 404, 405, 406, 407, 408, 409] (by decide +kernel) (by decide +kernel)
set_option maxRecDepth 20000 in
theorem gX9_run_X6_runOn : GoodIn wsX9_run (wsV RX9 108 RX6 yX6_runOn wsX6_runOn) := goodIn_app (goodIn_of _ (by decide +kernel)) ggX9_run_X6_runOn
set_option maxRecDepth 20000 in
theorem ggX9_run_X3_abandon : GoodIn wsX9_run wsX3_abandon := goodIn_r _ [357, 9, 8, 379, 380, 381, 382] (by decide +kernel) (by decide +kernel)
set_option maxRecDepth 20000 in
theorem gX9_run_X3_abandon : GoodIn wsX9_run (wsV RX9 112 RX3 yX3_abandon wsX3_abandon) := goodIn_app (goodIn_of _ (by decide +kernel)) ggX9_run_X3_abandon
set_option maxRecDepth 20000 in
theorem ggX9_run_X6_emptyText : GoodIn wsX9_run wsX6_emptyText := goodIn_r _ [361, 84, 413, 414, 415, 416, 417, 418] (by decide +kernel) (by decide +kernel)
set_option maxRecDepth 20000 in
theorem gX9_run_X6_emptyText : GoodIn wsX9_run (wsV RX9 105 RX6 yX6_emptyText wsX6_emptyText) := goodIn_app (goodIn_of _ (by decide +kernel)) ggX9_run_X6_emptyText
set_option maxRecDepth 20000 in
theorem ggX9_run_X3_settle : GoodIn wsX9_run wsX3_settle := goodIn_r _ [365, 349, 73, 350, 351, 352, 353, 366, 367, 368, 6, 369, 370, 371, 8, 372, 373, 374, 375, 96, 97, 379, 380, 381, 382] (by decide +kernel) (by decide +kernel)
set_option maxRecDepth 20000 in
theorem gX9_run_X3_settle : GoodIn wsX9_run (wsV RX9 43 RX3 yX3_settle wsX3_settle) := goodIn_app (goodIn_of _ (by decide +kernel)) ggX9_run_X3_settle
theorem dX9_run_0 : decode cX9_run 0 = .ok (.aload_n 0, 1) := by decide +kernel
theorem dX9_run_1 : decode cX9_run 1 = .ok (.getfield 10, 3) := by decide +kernel
theorem dX9_run_4 : decode cX9_run 4 = .ok (.invokevirtual 30, 3) := by decide +kernel
theorem dX9_run_7 : decode cX9_run 7 = .ok (.aload_n 0, 1) := by decide +kernel
theorem dX9_run_8 : decode cX9_run 8 = .ok (.getfield 19, 3) := by decide +kernel
theorem dX9_run_11 : decode cX9_run 11 = .ok (.aload_n 0, 1) := by decide +kernel
theorem dX9_run_12 : decode cX9_run 12 = .ok (.invokevirtual 33, 3) := by decide +kernel
theorem dX9_run_15 : decode cX9_run 15 = .ok (.invokevirtual 108, 3) := by decide +kernel
theorem dX9_run_18 : decode cX9_run 18 = .ok (.istore_n 1, 1) := by decide +kernel
theorem dX9_run_19 : decode cX9_run 19 = .ok (.iload_n 1, 1) := by decide +kernel
theorem dX9_run_20 : decode cX9_run 20 = .ok (.ifCond .ge 12, 3) := by decide +kernel
theorem dX9_run_23 : decode cX9_run 23 = .ok (.aload_n 0, 1) := by decide +kernel
theorem dX9_run_24 : decode cX9_run 24 = .ok (.getfield 10, 3) := by decide +kernel
theorem dX9_run_27 : decode cX9_run 27 = .ok (.invokevirtual 112, 3) := by decide +kernel
theorem dX9_run_30 : decode cX9_run 30 = .ok (.iload_n 1, 1) := by decide +kernel
theorem dX9_run_31 : decode cX9_run 31 = .ok (.ireturn, 1) := by decide +kernel
theorem dX9_run_32 : decode cX9_run 32 = .ok (.aload_n 0, 1) := by decide +kernel
theorem dX9_run_33 : decode cX9_run 33 = .ok (.getfield 19, 3) := by decide +kernel
theorem dX9_run_36 : decode cX9_run 36 = .ok (.invokevirtual 105, 3) := by decide +kernel
theorem dX9_run_39 : decode cX9_run 39 = .ok (.pop, 1) := by decide +kernel
theorem dX9_run_40 : decode cX9_run 40 = .ok (.aload_n 0, 1) := by decide +kernel
theorem dX9_run_41 : decode cX9_run 41 = .ok (.getfield 10, 3) := by decide +kernel
theorem dX9_run_44 : decode cX9_run 44 = .ok (.iload_n 1, 1) := by decide +kernel
theorem dX9_run_45 : decode cX9_run 45 = .ok (.invokevirtual 43, 3) := by decide +kernel
theorem dX9_run_48 : decode cX9_run 48 = .ok (.ireturn, 1) := by decide +kernel
set_option maxRecDepth 20000 in
theorem ggX9_failure_X2_part : GoodIn wsX9_failure wsX2_part := goodIn_r _ [7, 8, 9, 10, 11, 12, 13, 14, 15, 16, 26, 27, 28, 29] (by decide +kernel) (by decide +kernel)
set_option maxRecDepth 20000 in
theorem gX9_failure_X2_part : GoodIn wsX9_failure (wsV RX9 119 RX2 yX2_part wsX2_part) := goodIn_app (goodIn_of _ (by decide +kernel)) ggX9_failure_X2_part
theorem dX9_failure_0 : decode cX9_failure 0 = .ok (.aload_n 0, 1) := by decide +kernel
theorem dX9_failure_1 : decode cX9_failure 1 = .ok (.getfield 19, 3) := by decide +kernel
theorem dX9_failure_4 : decode cX9_failure 4 = .ok (.getfield 115, 3) := by decide +kernel
theorem dX9_failure_7 : decode cX9_failure 7 = .ok (.iload_n 1, 1) := by decide +kernel
theorem dX9_failure_8 : decode cX9_failure 8 = .ok (.invokevirtual 119, 3) := by decide +kernel
theorem dX9_failure_11 : decode cX9_failure 11 = .ok (.ireturn, 1) := by decide +kernel
set_option maxRecDepth 20000 in
theorem ggX9_count_X8_slotsInUse : GoodIn wsX9_count wsX8_slotsInUse := goodIn_r _ [10, 11, 63, 64, 65] (by decide +kernel) (by decide +kernel)
set_option maxRecDepth 20000 in
theorem gX9_count_X8_slotsInUse : GoodIn wsX9_count (wsV RX9 124 RX8 yX8_slotsInUse wsX8_slotsInUse) := goodIn_app (goodIn_of _ (by decide +kernel)) ggX9_count_X8_slotsInUse
set_option maxRecDepth 20000 in
theorem ggX9_count_X9_counter : GoodIn wsX9_count wsX9_counter := goodIn_r _ [16, 1, 2, 17, 50, 51, 52, 53, 54, 55, 56, 63, 64, 65] (by decide +kernel) (by decide +kernel)
set_option maxRecDepth 20000 in
theorem gX9_count_X9_counter : GoodIn wsX9_count (wsV RX9 33 RX9 yX9_counter wsX9_counter) := goodIn_app (goodIn_of _ (by decide +kernel)) ggX9_count_X9_counter
set_option maxRecDepth 20000 in
theorem ggX9_count_X0_number : GoodIn wsX9_count wsX0_number := goodIn_r _ [22, 23, 24, 25, 26, 27, 28, 29, 30, 31, 32, 33, 34, 35, 21, 36, 37, 38, 39, 40, 41, 42, 43, 44, 45, 46, 47, 48, 49, 66, 67, 68, 69, 70, 71, 72, 73, 74, 75, 76, 77, 78, 79, 80, 81, 82, 83, 84, 85, 86, 87, 88, 89, 90] (by decide +kernel) (by decide +kernel)
set_option maxRecDepth 20000 in
theorem gX9_count_X0_number : GoodIn wsX9_count (wsV RX9 134 RX0 yX0_number wsX0_number) := goodIn_app (goodIn_of _ (by decide +kernel)) ggX9_count_X0_number
theorem dX9_count_0 : decode cX9_count 0 = .ok (.iload_n 1, 1) := by decide +kernel
theorem dX9_count_1 : decode cX9_count 1 = .ok (.tableswitch 54 11 13 #[27, 38, 46], 27) := by decide +kernel
theorem dX9_count_28 : decode cX9_count 28 = .ok (.aload_n 0, 1) := by decide +kernel
theorem dX9_count_29 : decode cX9_count 29 = .ok (.getfield 10, 3) := by decide +kernel
theorem dX9_count_32 : decode cX9_count 32 = .ok (.getfield 86, 3) := by decide +kernel
theorem dX9_count_35 : decode cX9_count 35 = .ok (.invokevirtual 124, 3) := by decide +kernel
theorem dX9_count_38 : decode cX9_count 38 = .ok (.ireturn, 1) := by decide +kernel
theorem dX9_count_39 : decode cX9_count 39 = .ok (.aload_n 0, 1) := by decide +kernel
theorem dX9_count_40 : decode cX9_count 40 = .ok (.getfield 10, 3) := by decide +kernel
theorem dX9_count_43 : decode cX9_count 43 = .ok (.getfield 127, 3) := by decide +kernel
theorem dX9_count_46 : decode cX9_count 46 = .ok (.ireturn, 1) := by decide +kernel
theorem dX9_count_47 : decode cX9_count 47 = .ok (.aload_n 0, 1) := by decide +kernel
theorem dX9_count_48 : decode cX9_count 48 = .ok (.getfield 19, 3) := by decide +kernel
theorem dX9_count_51 : decode cX9_count 51 = .ok (.getfield 131, 3) := by decide +kernel
theorem dX9_count_54 : decode cX9_count 54 = .ok (.ireturn, 1) := by decide +kernel
theorem dX9_count_55 : decode cX9_count 55 = .ok (.aload_n 0, 1) := by decide +kernel
theorem dX9_count_56 : decode cX9_count 56 = .ok (.invokevirtual 33, 3) := by decide +kernel
theorem dX9_count_59 : decode cX9_count 59 = .ok (.iload_n 1, 1) := by decide +kernel
theorem dX9_count_60 : decode cX9_count 60 = .ok (.invokevirtual 134, 3) := by decide +kernel
theorem dX9_count_63 : decode cX9_count 63 = .ok (.ireturn, 1) := by decide +kernel
set_option maxRecDepth 20000 in
theorem ggX9_kind_X9_counter : GoodIn wsX9_kind wsX9_counter := goodIn_r _ [8, 9, 10, 11, 23, 24, 25, 26, 27, 28, 29, 30, 31, 32] (by decide +kernel) (by decide +kernel)
set_option maxRecDepth 20000 in
theorem gX9_kind_X9_counter : GoodIn wsX9_kind (wsV RX9 33 RX9 yX9_counter wsX9_counter) := goodIn_app (goodIn_of _ (by decide +kernel)) ggX9_kind_X9_counter
set_option maxRecDepth 20000 in
theorem ggX9_kind_X0_kindAt : GoodIn wsX9_kind wsX0_kindAt := goodIn_r _ [16, 17, 18, 7, 19, 33, 34, 35, 36, 37, 38, 39, 40, 41] (by decide +kernel) (by decide +kernel)
set_option maxRecDepth 20000 in
theorem gX9_kind_X0_kindAt : GoodIn wsX9_kind (wsV RX9 137 RX0 yX0_kindAt wsX0_kindAt) := goodIn_app (goodIn_of _ (by decide +kernel)) ggX9_kind_X0_kindAt
set_option maxRecDepth 20000 in
theorem ggX9_kind_X9_within : GoodIn wsX9_kind wsX9_within := goodIn_r _ [19] (by decide +kernel) (by decide +kernel)
set_option maxRecDepth 20000 in
theorem gX9_kind_X9_within : GoodIn wsX9_kind (va_wsS RX9 141 yX9_within wsX9_within) := goodIn_app (goodIn_of _ (by decide +kernel)) ggX9_kind_X9_within
theorem dX9_kind_0 : decode cX9_kind 0 = .ok (.aload_n 0, 1) := by decide +kernel
theorem dX9_kind_1 : decode cX9_kind 1 = .ok (.invokevirtual 33, 3) := by decide +kernel
theorem dX9_kind_4 : decode cX9_kind 4 = .ok (.iload_n 1, 1) := by decide +kernel
theorem dX9_kind_5 : decode cX9_kind 5 = .ok (.invokevirtual 137, 3) := by decide +kernel
theorem dX9_kind_8 : decode cX9_kind 8 = .ok (.astore_n 3, 1) := by decide +kernel
theorem dX9_kind_9 : decode cX9_kind 9 = .ok (.aload_n 3, 1) := by decide +kernel
theorem dX9_kind_10 : decode cX9_kind 10 = .ok (.ifnull 12, 3) := by decide +kernel
theorem dX9_kind_13 : decode cX9_kind 13 = .ok (.iload_n 2, 1) := by decide +kernel
theorem dX9_kind_14 : decode cX9_kind 14 = .ok (.iconst 0, 1) := by decide +kernel
theorem dX9_kind_15 : decode cX9_kind 15 = .ok (.iconst 1, 1) := by decide +kernel
theorem dX9_kind_16 : decode cX9_kind 16 = .ok (.invokestatic 141, 3) := by decide +kernel
theorem dX9_kind_19 : decode cX9_kind 19 = .ok (.ifCond .ne 6, 3) := by decide +kernel
theorem dX9_kind_22 : decode cX9_kind 22 = .ok (.ldc 145, 2) := by decide +kernel
theorem dX9_kind_24 : decode cX9_kind 24 = .ok (.ireturn, 1) := by decide +kernel
theorem dX9_kind_25 : decode cX9_kind 25 = .ok (.iload_n 2, 1) := by decide +kernel
theorem dX9_kind_26 : decode cX9_kind 26 = .ok (.ifCond .ne 10, 3) := by decide +kernel
theorem dX9_kind_29 : decode cX9_kind 29 = .ok (.aload_n 3, 1) := by decide +kernel
theorem dX9_kind_30 : decode cX9_kind 30 = .ok (.getfield 146, 3) := by decide +kernel
theorem dX9_kind_33 : decode cX9_kind 33 = .ok (.goto 7, 3) := by decide +kernel
theorem dX9_kind_36 : decode cX9_kind 36 = .ok (.aload_n 3, 1) := by decide +kernel
theorem dX9_kind_37 : decode cX9_kind 37 = .ok (.getfield 151, 3) := by decide +kernel
theorem dX9_kind_40 : decode cX9_kind 40 = .ok (.ireturn, 1) := by decide +kernel
set_option maxRecDepth 20000 in
theorem ggX9_customer_X9_counter : GoodIn wsX9_customer wsX9_counter := goodIn_r _ [6, 7, 8, 9, 32, 33, 34, 35, 36, 37, 38, 39, 40, 41] (by decide +kernel) (by decide +kernel)
set_option maxRecDepth 20000 in
theorem gX9_customer_X9_counter : GoodIn wsX9_customer (wsV RX9 33 RX9 yX9_counter wsX9_counter) := goodIn_app (goodIn_of _ (by decide +kernel)) ggX9_customer_X9_counter
set_option maxRecDepth 20000 in
theorem ggX9_customer_X0_customerAt : GoodIn wsX9_customer wsX0_customerAt := goodIn_r _ [14, 15, 16, 17, 5, 18, 42, 43, 44, 45, 46, 47, 48, 49, 50] (by decide +kernel) (by decide +kernel)
set_option maxRecDepth 20000 in
theorem gX9_customer_X0_customerAt : GoodIn wsX9_customer (wsV RX9 154 RX0 yX0_customerAt wsX0_customerAt) := goodIn_app (goodIn_of _ (by decide +kernel)) ggX9_customer_X0_customerAt
set_option maxRecDepth 20000 in
theorem ggX9_customer_X1_part : GoodIn wsX9_customer wsX1_part := goodIn_r _ [23, 24, 25, 26, 27, 28, 29, 30, 31, 17, 5, 18, 51, 52, 53, 54, 55, 56] (by decide +kernel) (by decide +kernel)
set_option maxRecDepth 20000 in
theorem gX9_customer_X1_part : GoodIn wsX9_customer (wsV RX9 158 RX1 yX1_part wsX1_part) := goodIn_app (goodIn_of _ (by decide +kernel)) ggX9_customer_X1_part
theorem dX9_customer_0 : decode cX9_customer 0 = .ok (.aload_n 0, 1) := by decide +kernel
theorem dX9_customer_1 : decode cX9_customer 1 = .ok (.invokevirtual 33, 3) := by decide +kernel
theorem dX9_customer_4 : decode cX9_customer 4 = .ok (.iload_n 1, 1) := by decide +kernel
theorem dX9_customer_5 : decode cX9_customer 5 = .ok (.invokevirtual 154, 3) := by decide +kernel
theorem dX9_customer_8 : decode cX9_customer 8 = .ok (.astore_n 3, 1) := by decide +kernel
theorem dX9_customer_9 : decode cX9_customer 9 = .ok (.aload_n 3, 1) := by decide +kernel
theorem dX9_customer_10 : decode cX9_customer 10 = .ok (.ifnonnull 6, 3) := by decide +kernel
theorem dX9_customer_13 : decode cX9_customer 13 = .ok (.ldc 145, 2) := by decide +kernel
theorem dX9_customer_15 : decode cX9_customer 15 = .ok (.ireturn, 1) := by decide +kernel
theorem dX9_customer_16 : decode cX9_customer 16 = .ok (.aload_n 3, 1) := by decide +kernel
theorem dX9_customer_17 : decode cX9_customer 17 = .ok (.iload_n 2, 1) := by decide +kernel
theorem dX9_customer_18 : decode cX9_customer 18 = .ok (.invokevirtual 158, 3) := by decide +kernel
theorem dX9_customer_21 : decode cX9_customer 21 = .ok (.ireturn, 1) := by decide +kernel
set_option maxRecDepth 20000 in
theorem ggX9_prize_X9_counter : GoodIn wsX9_prize wsX9_counter := goodIn_r _ [6, 7, 8, 9, 32, 33, 34, 35, 36, 37, 38, 39, 40, 41] (by decide +kernel) (by decide +kernel)
set_option maxRecDepth 20000 in
theorem gX9_prize_X9_counter : GoodIn wsX9_prize (wsV RX9 33 RX9 yX9_counter wsX9_counter) := goodIn_app (goodIn_of _ (by decide +kernel)) ggX9_prize_X9_counter
set_option maxRecDepth 20000 in
theorem ggX9_prize_X0_prizeAt : GoodIn wsX9_prize wsX0_prizeAt := goodIn_r _ [14, 15, 16, 17, 5, 18, 42, 43, 44, 45, 46, 47, 48, 49, 50] (by decide +kernel) (by decide +kernel)
set_option maxRecDepth 20000 in
theorem gX9_prize_X0_prizeAt : GoodIn wsX9_prize (wsV RX9 161 RX0 yX0_prizeAt wsX0_prizeAt) := goodIn_app (goodIn_of _ (by decide +kernel)) ggX9_prize_X0_prizeAt
set_option maxRecDepth 20000 in
theorem ggX9_prize_X5_part : GoodIn wsX9_prize wsX5_part := goodIn_r _ [23, 24, 25, 26, 27, 28, 29, 30, 31, 51, 52, 53, 54, 55, 56, 57] (by decide +kernel) (by decide +kernel)
set_option maxRecDepth 20000 in
theorem gX9_prize_X5_part : GoodIn wsX9_prize (wsV RX9 165 RX5 yX5_part wsX5_part) := goodIn_app (goodIn_of _ (by decide +kernel)) ggX9_prize_X5_part
theorem dX9_prize_0 : decode cX9_prize 0 = .ok (.aload_n 0, 1) := by decide +kernel
theorem dX9_prize_1 : decode cX9_prize 1 = .ok (.invokevirtual 33, 3) := by decide +kernel
theorem dX9_prize_4 : decode cX9_prize 4 = .ok (.iload_n 1, 1) := by decide +kernel
theorem dX9_prize_5 : decode cX9_prize 5 = .ok (.invokevirtual 161, 3) := by decide +kernel
theorem dX9_prize_8 : decode cX9_prize 8 = .ok (.astore_n 3, 1) := by decide +kernel
theorem dX9_prize_9 : decode cX9_prize 9 = .ok (.aload_n 3, 1) := by decide +kernel
theorem dX9_prize_10 : decode cX9_prize 10 = .ok (.ifnonnull 6, 3) := by decide +kernel
theorem dX9_prize_13 : decode cX9_prize 13 = .ok (.ldc 145, 2) := by decide +kernel
theorem dX9_prize_15 : decode cX9_prize 15 = .ok (.ireturn, 1) := by decide +kernel
theorem dX9_prize_16 : decode cX9_prize 16 = .ok (.aload_n 3, 1) := by decide +kernel
theorem dX9_prize_17 : decode cX9_prize 17 = .ok (.iload_n 2, 1) := by decide +kernel
theorem dX9_prize_18 : decode cX9_prize 18 = .ok (.invokevirtual 165, 3) := by decide +kernel
theorem dX9_prize_21 : decode cX9_prize 21 = .ok (.ireturn, 1) := by decide +kernel
set_option maxRecDepth 20000 in
theorem ggX9_read_X9_within : GoodIn wsX9_read wsX9_within := goodIn_r _ [8] (by decide +kernel) (by decide +kernel)
set_option maxRecDepth 20000 in
theorem gX9_read_X9_within : GoodIn wsX9_read (va_wsS RX9 141 yX9_within wsX9_within) := goodIn_app (goodIn_of _ (by decide +kernel)) ggX9_read_X9_within
set_option maxRecDepth 20000 in
theorem ggX9_read_X9_counter : GoodIn wsX9_read wsX9_counter := goodIn_r _ [12, 13, 14, 15, 42, 43, 44, 45, 46, 47, 48, 49, 50, 51] (by decide +kernel) (by decide +kernel)
set_option maxRecDepth 20000 in
theorem gX9_read_X9_counter : GoodIn wsX9_read (wsV RX9 33 RX9 yX9_counter wsX9_counter) := goodIn_app (goodIn_of _ (by decide +kernel)) ggX9_read_X9_counter
set_option maxRecDepth 20000 in
theorem ggX9_read_X9_readingAt : GoodIn wsX9_read wsX9_readingAt := goodIn_r _ [18, 19, 20, 21, 22, 23, 24, 7, 25, 26, 27, 28, 29] (by decide +kernel) (by decide +kernel)
set_option maxRecDepth 20000 in
theorem gX9_read_X9_readingAt : GoodIn wsX9_read (va_wsS RX9 176 yX9_readingAt wsX9_readingAt) := goodIn_app (goodIn_of _ (by decide +kernel)) ggX9_read_X9_readingAt
theorem dX9_read_0 : decode cX9_read 0 = .ok (.iload_n 1, 1) := by decide +kernel
theorem dX9_read_1 : decode cX9_read 1 = .ok (.sipush (-5000), 3) := by decide +kernel
theorem dX9_read_4 : decode cX9_read 4 = .ok (.ldc 166, 2) := by decide +kernel
theorem dX9_read_6 : decode cX9_read 6 = .ok (.invokestatic 141, 3) := by decide +kernel
theorem dX9_read_9 : decode cX9_read 9 = .ok (.ifCond .ne 6, 3) := by decide +kernel
theorem dX9_read_12 : decode cX9_read 12 = .ok (.ldc 145, 2) := by decide +kernel
theorem dX9_read_14 : decode cX9_read 14 = .ok (.ireturn, 1) := by decide +kernel
theorem dX9_read_15 : decode cX9_read 15 = .ok (.aload_n 0, 1) := by decide +kernel
theorem dX9_read_16 : decode cX9_read 16 = .ok (.invokevirtual 33, 3) := by decide +kernel
theorem dX9_read_19 : decode cX9_read 19 = .ok (.getfield 167, 3) := by decide +kernel
theorem dX9_read_22 : decode cX9_read 22 = .ok (.getfield 171, 3) := by decide +kernel
theorem dX9_read_25 : decode cX9_read 25 = .ok (.iload_n 1, 1) := by decide +kernel
theorem dX9_read_26 : decode cX9_read 26 = .ok (.invokestatic 176, 3) := by decide +kernel
theorem dX9_read_29 : decode cX9_read 29 = .ok (.ireturn, 1) := by decide +kernel
set_option maxRecDepth 20000 in
theorem ggX9_allowed_X9_counter : GoodIn wsX9_allowed wsX9_counter := goodIn_r _ [9, 10, 11, 12, 75, 76, 77, 78, 79, 80, 81, 82, 83, 84] (by decide +kernel) (by decide +kernel)
set_option maxRecDepth 20000 in
theorem gX9_allowed_X9_counter : GoodIn wsX9_allowed (wsV RX9 33 RX9 yX9_counter wsX9_counter) := goodIn_app (goodIn_of _ (by decide +kernel)) ggX9_allowed_X9_counter
set_option maxRecDepth 20000 in
theorem ggX9_allowed_X0_kindAt : GoodIn wsX9_allowed wsX0_kindAt := goodIn_r _ [17, 18, 19, 8, 20, 66, 67, 68, 69, 70, 71, 72, 73, 74] (by decide +kernel) (by decide +kernel)
set_option maxRecDepth 20000 in
theorem gX9_allowed_X0_kindAt : GoodIn wsX9_allowed (wsV RX9 137 RX0 yX0_kindAt wsX0_kindAt) := goodIn_app (goodIn_of _ (by decide +kernel)) ggX9_allowed_X0_kindAt
set_option maxRecDepth 20000 in
theorem ggX9_allowed_X9_within : GoodIn wsX9_allowed wsX9_within := goodIn_r _ [20] (by decide +kernel) (by decide +kernel)
set_option maxRecDepth 20000 in
theorem gX9_allowed_X9_within : GoodIn wsX9_allowed (va_wsS RX9 141 yX9_within wsX9_within) := goodIn_app (goodIn_of _ (by decide +kernel)) ggX9_allowed_X9_within
set_option maxRecDepth 20000 in
theorem ggX9_allowed_X7_leastCount : GoodIn wsX9_allowed wsX7_leastCount := goodIn_r _ [26, 27, 28, 29, 30, 31, 32, 33, 34, 35, 36, 37, 38, 39, 40, 41, 25, 42, 43, 44, 8, 45, 46, 47, 48, 49, 85, 86, 87, 88, 89] (by decide +kernel) (by decide +kernel)
set_option maxRecDepth 20000 in
theorem gX9_allowed_X7_leastCount : GoodIn wsX9_allowed (wsV RX9 179 RX7 yX7_leastCount wsX7_leastCount) := goodIn_app (goodIn_of _ (by decide +kernel)) ggX9_allowed_X7_leastCount
set_option maxRecDepth 20000 in
theorem ggX9_allowed_X7_greatestCount : GoodIn wsX9_allowed wsX7_greatestCount := goodIn_r _ [53, 27, 54, 55, 56, 25, 57, 43, 58, 59, 60, 61, 62, 63, 64, 35, 65, 37, 38, 44, 8, 45, 46, 47, 48, 49, 85, 86, 87, 88, 89] (by decide +kernel) (by decide +kernel)
set_option maxRecDepth 20000 in
theorem gX9_allowed_X7_greatestCount : GoodIn wsX9_allowed (wsV RX9 183 RX7 yX7_greatestCount wsX7_greatestCount) := goodIn_app (goodIn_of _ (by decide +kernel)) ggX9_allowed_X7_greatestCount
theorem dX9_allowed_0 : decode cX9_allowed 0 = .ok (.aload_n 0, 1) := by decide +kernel
theorem dX9_allowed_1 : decode cX9_allowed 1 = .ok (.invokevirtual 33, 3) := by decide +kernel
theorem dX9_allowed_4 : decode cX9_allowed 4 = .ok (.iload_n 2, 1) := by decide +kernel
theorem dX9_allowed_5 : decode cX9_allowed 5 = .ok (.invokevirtual 137, 3) := by decide +kernel
theorem dX9_allowed_8 : decode cX9_allowed 8 = .ok (.astore 4, 2) := by decide +kernel
theorem dX9_allowed_10 : decode cX9_allowed 10 = .ok (.iload_n 1, 1) := by decide +kernel
theorem dX9_allowed_11 : decode cX9_allowed 11 = .ok (.iconst 0, 1) := by decide +kernel
theorem dX9_allowed_12 : decode cX9_allowed 12 = .ok (.ldc 166, 2) := by decide +kernel
theorem dX9_allowed_14 : decode cX9_allowed 14 = .ok (.invokestatic 141, 3) := by decide +kernel
theorem dX9_allowed_17 : decode cX9_allowed 17 = .ok (.ifCond .eq 17, 3) := by decide +kernel
theorem dX9_allowed_20 : decode cX9_allowed 20 = .ok (.aload 4, 2) := by decide +kernel
theorem dX9_allowed_22 : decode cX9_allowed 22 = .ok (.ifnull 12, 3) := by decide +kernel
theorem dX9_allowed_25 : decode cX9_allowed 25 = .ok (.iload_n 3, 1) := by decide +kernel
theorem dX9_allowed_26 : decode cX9_allowed 26 = .ok (.iconst 0, 1) := by decide +kernel
theorem dX9_allowed_27 : decode cX9_allowed 27 = .ok (.iconst 2, 1) := by decide +kernel
theorem dX9_allowed_28 : decode cX9_allowed 28 = .ok (.invokestatic 141, 3) := by decide +kernel
theorem dX9_allowed_31 : decode cX9_allowed 31 = .ok (.ifCond .ne 6, 3) := by decide +kernel
theorem dX9_allowed_34 : decode cX9_allowed 34 = .ok (.ldc 145, 2) := by decide +kernel
theorem dX9_allowed_36 : decode cX9_allowed 36 = .ok (.ireturn, 1) := by decide +kernel
theorem dX9_allowed_37 : decode cX9_allowed 37 = .ok (.aload_n 0, 1) := by decide +kernel
theorem dX9_allowed_38 : decode cX9_allowed 38 = .ok (.invokevirtual 33, 3) := by decide +kernel
theorem dX9_allowed_41 : decode cX9_allowed 41 = .ok (.getfield 167, 3) := by decide +kernel
theorem dX9_allowed_44 : decode cX9_allowed 44 = .ok (.iload_n 1, 1) := by decide +kernel
theorem dX9_allowed_45 : decode cX9_allowed 45 = .ok (.aload 4, 2) := by decide +kernel
theorem dX9_allowed_47 : decode cX9_allowed 47 = .ok (.invokevirtual 179, 3) := by decide +kernel
theorem dX9_allowed_50 : decode cX9_allowed 50 = .ok (.istore 5, 2) := by decide +kernel
theorem dX9_allowed_52 : decode cX9_allowed 52 = .ok (.aload_n 0, 1) := by decide +kernel
theorem dX9_allowed_53 : decode cX9_allowed 53 = .ok (.invokevirtual 33, 3) := by decide +kernel
theorem dX9_allowed_56 : decode cX9_allowed 56 = .ok (.getfield 167, 3) := by decide +kernel
theorem dX9_allowed_59 : decode cX9_allowed 59 = .ok (.iload_n 1, 1) := by decide +kernel
theorem dX9_allowed_60 : decode cX9_allowed 60 = .ok (.aload 4, 2) := by decide +kernel
theorem dX9_allowed_62 : decode cX9_allowed 62 = .ok (.invokevirtual 183, 3) := by decide +kernel
theorem dX9_allowed_65 : decode cX9_allowed 65 = .ok (.istore 6, 2) := by decide +kernel
theorem dX9_allowed_67 : decode cX9_allowed 67 = .ok (.iload 5, 2) := by decide +kernel
theorem dX9_allowed_69 : decode cX9_allowed 69 = .ok (.iload 6, 2) := by decide +kernel
theorem dX9_allowed_71 : decode cX9_allowed 71 = .ok (.if_icmp .le 15, 3) := by decide +kernel
theorem dX9_allowed_74 : decode cX9_allowed 74 = .ok (.iload_n 3, 1) := by decide +kernel
theorem dX9_allowed_75 : decode cX9_allowed 75 = .ok (.iconst 2, 1) := by decide +kernel
theorem dX9_allowed_76 : decode cX9_allowed 76 = .ok (.if_icmp .ne 7, 3) := by decide +kernel
theorem dX9_allowed_79 : decode cX9_allowed 79 = .ok (.iconst 0, 1) := by decide +kernel
theorem dX9_allowed_80 : decode cX9_allowed 80 = .ok (.goto 5, 3) := by decide +kernel
theorem dX9_allowed_83 : decode cX9_allowed 83 = .ok (.ldc 186, 2) := by decide +kernel
theorem dX9_allowed_85 : decode cX9_allowed 85 = .ok (.ireturn, 1) := by decide +kernel
theorem dX9_allowed_86 : decode cX9_allowed 86 = .ok (.iload_n 3, 1) := by decide +kernel
theorem dX9_allowed_87 : decode cX9_allowed 87 = .ok (.lookupswitch 31 #[(0, 25), (1, 28)], 25) := by decide +kernel
theorem dX9_allowed_112 : decode cX9_allowed 112 = .ok (.iload 5, 2) := by decide +kernel
theorem dX9_allowed_114 : decode cX9_allowed 114 = .ok (.ireturn, 1) := by decide +kernel
theorem dX9_allowed_115 : decode cX9_allowed 115 = .ok (.iload 6, 2) := by decide +kernel
theorem dX9_allowed_117 : decode cX9_allowed 117 = .ok (.ireturn, 1) := by decide +kernel
theorem dX9_allowed_118 : decode cX9_allowed 118 = .ok (.iload 6, 2) := by decide +kernel
theorem dX9_allowed_120 : decode cX9_allowed 120 = .ok (.iload 5, 2) := by decide +kernel
theorem dX9_allowed_122 : decode cX9_allowed 122 = .ok (.isub, 1) := by decide +kernel
theorem dX9_allowed_123 : decode cX9_allowed 123 = .ok (.iconst 1, 1) := by decide +kernel
theorem dX9_allowed_124 : decode cX9_allowed 124 = .ok (.iadd, 1) := by decide +kernel
theorem dX9_allowed_125 : decode cX9_allowed 125 = .ok (.ireturn, 1) := by decide +kernel
set_option maxRecDepth 20000 in
theorem ggX9_guess_X9_counter : GoodIn wsX9_guess wsX9_counter := goodIn_r _ [8, 9, 10, 11, 87, 88, 89, 90, 91, 92, 93, 94, 95, 96] (by decide +kernel) (by decide +kernel)
set_option maxRecDepth 20000 in
theorem gX9_guess_X9_counter : GoodIn wsX9_guess (wsV RX9 33 RX9 yX9_counter wsX9_counter) := goodIn_app (goodIn_of _ (by decide +kernel)) ggX9_guess_X9_counter
set_option maxRecDepth 20000 in
theorem ggX9_guess_X0_kindAt : GoodIn wsX9_guess wsX0_kindAt := goodIn_r _ [16, 17, 18, 7, 19, 78, 79, 80, 81, 82, 83, 84, 85, 86] (by decide +kernel) (by decide +kernel)
set_option maxRecDepth 20000 in
theorem gX9_guess_X0_kindAt : GoodIn wsX9_guess (wsV RX9 137 RX0 yX0_kindAt wsX0_kindAt) := goodIn_app (goodIn_of _ (by decide +kernel)) ggX9_guess_X0_kindAt
set_option maxRecDepth 20000 in
theorem ggX9_guess_X9_within : GoodIn wsX9_guess wsX9_within := goodIn_r _ [19] (by decide +kernel) (by decide +kernel)
set_option maxRecDepth 20000 in
theorem gX9_guess_X9_within : GoodIn wsX9_guess (va_wsS RX9 141 yX9_within wsX9_within) := goodIn_app (goodIn_of _ (by decide +kernel)) ggX9_guess_X9_within
set_option maxRecDepth 20000 in
theorem ggX9_guess_X7_guessFrom : GoodIn wsX9_guess wsX7_guessFrom := goodIn_r _ [25, 26, 27, 28, 29, 30, 31, 32, 33, 34, 35, 36, 37, 24, 38, 39, 40, 41, 42, 43, 44, 45, 46, 47, 48, 49, 50, 51, 52, 7, 53, 54, 55, 56, 57, 58, 59, 60, 61, 62, 63, 64, 65, 66, 67, 68, 69, 70, 71, 72, 73, 74, 75, 76, 77, 97, 98, 99, 100, 101] (by decide +kernel) (by decide +kernel)
set_option maxRecDepth 20000 in
theorem gX9_guess_X7_guessFrom : GoodIn wsX9_guess (wsV RX9 187 RX7 yX7_guessFrom wsX7_guessFrom) := goodIn_app (goodIn_of _ (by decide +kernel)) ggX9_guess_X7_guessFrom
theorem dX9_guess_0 : decode cX9_guess 0 = .ok (.aload_n 0, 1) := by decide +kernel
theorem dX9_guess_1 : decode cX9_guess 1 = .ok (.invokevirtual 33, 3) := by decide +kernel
theorem dX9_guess_4 : decode cX9_guess 4 = .ok (.iload_n 2, 1) := by decide +kernel
theorem dX9_guess_5 : decode cX9_guess 5 = .ok (.invokevirtual 137, 3) := by decide +kernel
theorem dX9_guess_8 : decode cX9_guess 8 = .ok (.astore 4, 2) := by decide +kernel
theorem dX9_guess_10 : decode cX9_guess 10 = .ok (.iload_n 1, 1) := by decide +kernel
theorem dX9_guess_11 : decode cX9_guess 11 = .ok (.iconst 0, 1) := by decide +kernel
theorem dX9_guess_12 : decode cX9_guess 12 = .ok (.ldc 166, 2) := by decide +kernel
theorem dX9_guess_14 : decode cX9_guess 14 = .ok (.invokestatic 141, 3) := by decide +kernel
theorem dX9_guess_17 : decode cX9_guess 17 = .ok (.ifCond .eq 17, 3) := by decide +kernel
theorem dX9_guess_20 : decode cX9_guess 20 = .ok (.aload 4, 2) := by decide +kernel
theorem dX9_guess_22 : decode cX9_guess 22 = .ok (.ifnull 12, 3) := by decide +kernel
theorem dX9_guess_25 : decode cX9_guess 25 = .ok (.iload_n 3, 1) := by decide +kernel
theorem dX9_guess_26 : decode cX9_guess 26 = .ok (.iconst 0, 1) := by decide +kernel
theorem dX9_guess_27 : decode cX9_guess 27 = .ok (.iconst 3, 1) := by decide +kernel
theorem dX9_guess_28 : decode cX9_guess 28 = .ok (.invokestatic 141, 3) := by decide +kernel
theorem dX9_guess_31 : decode cX9_guess 31 = .ok (.ifCond .ne 6, 3) := by decide +kernel
theorem dX9_guess_34 : decode cX9_guess 34 = .ok (.ldc 145, 2) := by decide +kernel
theorem dX9_guess_36 : decode cX9_guess 36 = .ok (.ireturn, 1) := by decide +kernel
theorem dX9_guess_37 : decode cX9_guess 37 = .ok (.aload_n 0, 1) := by decide +kernel
theorem dX9_guess_38 : decode cX9_guess 38 = .ok (.invokevirtual 33, 3) := by decide +kernel
theorem dX9_guess_41 : decode cX9_guess 41 = .ok (.getfield 167, 3) := by decide +kernel
theorem dX9_guess_44 : decode cX9_guess 44 = .ok (.iload_n 1, 1) := by decide +kernel
theorem dX9_guess_45 : decode cX9_guess 45 = .ok (.aload 4, 2) := by decide +kernel
theorem dX9_guess_47 : decode cX9_guess 47 = .ok (.iload_n 3, 1) := by decide +kernel
theorem dX9_guess_48 : decode cX9_guess 48 = .ok (.invokevirtual 187, 3) := by decide +kernel
theorem dX9_guess_51 : decode cX9_guess 51 = .ok (.ireturn, 1) := by decide +kernel
set_option maxRecDepth 20000 in
theorem ggX9_apartUpTo_X9_counter : GoodIn wsX9_apartUpTo wsX9_counter := goodIn_r _ [7, 8, 9, 10, 63, 64, 65, 66, 67, 68, 69, 70, 71, 72] (by decide +kernel) (by decide +kernel)
set_option maxRecDepth 20000 in
theorem gX9_apartUpTo_X9_counter : GoodIn wsX9_apartUpTo (wsV RX9 33 RX9 yX9_counter wsX9_counter) := goodIn_app (goodIn_of _ (by decide +kernel)) ggX9_apartUpTo_X9_counter
set_option maxRecDepth 20000 in
theorem ggX9_apartUpTo_X0_kindAt : GoodIn wsX9_apartUpTo wsX0_kindAt := goodIn_r _ [15, 16, 17, 6, 18, 54, 55, 56, 57, 58, 59, 60, 61, 62] (by decide +kernel) (by decide +kernel)
set_option maxRecDepth 20000 in
theorem gX9_apartUpTo_X0_kindAt : GoodIn wsX9_apartUpTo (wsV RX9 137 RX0 yX0_kindAt wsX0_kindAt) := goodIn_app (goodIn_of _ (by decide +kernel)) ggX9_apartUpTo_X0_kindAt
set_option maxRecDepth 20000 in
theorem ggX9_apartUpTo_X7_lastApart : GoodIn wsX9_apartUpTo wsX7_lastApart := goodIn_r _ [23, 24, 25, 26, 27, 22, 28, 29, 30, 31, 32, 33, 34, 35, 36, 37, 6, 38, 39, 40, 41, 42, 43, 44, 45, 46, 47, 48, 49, 50, 51, 52, 53, 73, 74, 75, 76, 77] (by decide +kernel) (by decide +kernel)
set_option maxRecDepth 20000 in
theorem gX9_apartUpTo_X7_lastApart : GoodIn wsX9_apartUpTo (wsV RX9 191 RX7 yX7_lastApart wsX7_lastApart) := goodIn_app (goodIn_of _ (by decide +kernel)) ggX9_apartUpTo_X7_lastApart
theorem dX9_apartUpTo_0 : decode cX9_apartUpTo 0 = .ok (.aload_n 0, 1) := by decide +kernel
theorem dX9_apartUpTo_1 : decode cX9_apartUpTo 1 = .ok (.invokevirtual 33, 3) := by decide +kernel
theorem dX9_apartUpTo_4 : decode cX9_apartUpTo 4 = .ok (.iload_n 1, 1) := by decide +kernel
theorem dX9_apartUpTo_5 : decode cX9_apartUpTo 5 = .ok (.invokevirtual 137, 3) := by decide +kernel
theorem dX9_apartUpTo_8 : decode cX9_apartUpTo 8 = .ok (.astore_n 2, 1) := by decide +kernel
theorem dX9_apartUpTo_9 : decode cX9_apartUpTo 9 = .ok (.aload_n 2, 1) := by decide +kernel
theorem dX9_apartUpTo_10 : decode cX9_apartUpTo 10 = .ok (.ifnonnull 6, 3) := by decide +kernel
theorem dX9_apartUpTo_13 : decode cX9_apartUpTo 13 = .ok (.ldc 145, 2) := by decide +kernel
theorem dX9_apartUpTo_15 : decode cX9_apartUpTo 15 = .ok (.ireturn, 1) := by decide +kernel
theorem dX9_apartUpTo_16 : decode cX9_apartUpTo 16 = .ok (.aload_n 0, 1) := by decide +kernel
theorem dX9_apartUpTo_17 : decode cX9_apartUpTo 17 = .ok (.invokevirtual 33, 3) := by decide +kernel
theorem dX9_apartUpTo_20 : decode cX9_apartUpTo 20 = .ok (.getfield 167, 3) := by decide +kernel
theorem dX9_apartUpTo_23 : decode cX9_apartUpTo 23 = .ok (.aload_n 2, 1) := by decide +kernel
theorem dX9_apartUpTo_24 : decode cX9_apartUpTo 24 = .ok (.invokevirtual 191, 3) := by decide +kernel
theorem dX9_apartUpTo_27 : decode cX9_apartUpTo 27 = .ok (.ireturn, 1) := by decide +kernel
set_option maxRecDepth 20000 in
theorem ggX9_bestStep_X9_counter : GoodIn wsX9_bestStep wsX9_counter := goodIn_r _ [7, 8, 9, 10, 68, 69, 70, 71, 72, 73, 74, 75, 76, 77] (by decide +kernel) (by decide +kernel)
set_option maxRecDepth 20000 in
theorem gX9_bestStep_X9_counter : GoodIn wsX9_bestStep (wsV RX9 33 RX9 yX9_counter wsX9_counter) := goodIn_app (goodIn_of _ (by decide +kernel)) ggX9_bestStep_X9_counter
set_option maxRecDepth 20000 in
theorem ggX9_bestStep_X0_kindAt : GoodIn wsX9_bestStep wsX0_kindAt := goodIn_r _ [15, 16, 17, 6, 18, 59, 60, 61, 62, 63, 64, 65, 66, 67] (by decide +kernel) (by decide +kernel)
set_option maxRecDepth 20000 in
theorem gX9_bestStep_X0_kindAt : GoodIn wsX9_bestStep (wsV RX9 137 RX0 yX0_kindAt wsX0_kindAt) := goodIn_app (goodIn_of _ (by decide +kernel)) ggX9_bestStep_X0_kindAt
set_option maxRecDepth 20000 in
theorem ggX9_bestStep_X9_within : GoodIn wsX9_bestStep wsX9_within := goodIn_r _ [18] (by decide +kernel) (by decide +kernel)
set_option maxRecDepth 20000 in
theorem gX9_bestStep_X9_within : GoodIn wsX9_bestStep (va_wsS RX9 141 yX9_within wsX9_within) := goodIn_app (goodIn_of _ (by decide +kernel)) ggX9_bestStep_X9_within
set_option maxRecDepth 20000 in
theorem ggX9_bestStep_X7_greatestStep : GoodIn wsX9_bestStep wsX7_greatestStep := goodIn_r _ [24, 25, 26, 27, 28, 23, 29, 30, 31, 32, 33, 34, 35, 36, 37, 38, 39, 40, 41, 42, 6, 43, 44, 45, 46, 47, 48, 49, 50, 51, 52, 53, 54, 55, 56, 57, 58, 78, 79, 80, 81, 82] (by decide +kernel) (by decide +kernel)
set_option maxRecDepth 20000 in
theorem gX9_bestStep_X7_greatestStep : GoodIn wsX9_bestStep (wsV RX9 195 RX7 yX7_greatestStep wsX7_greatestStep) := goodIn_app (goodIn_of _ (by decide +kernel)) ggX9_bestStep_X7_greatestStep
theorem dX9_bestStep_0 : decode cX9_bestStep 0 = .ok (.aload_n 0, 1) := by decide +kernel
theorem dX9_bestStep_1 : decode cX9_bestStep 1 = .ok (.invokevirtual 33, 3) := by decide +kernel
theorem dX9_bestStep_4 : decode cX9_bestStep 4 = .ok (.iload_n 1, 1) := by decide +kernel
theorem dX9_bestStep_5 : decode cX9_bestStep 5 = .ok (.invokevirtual 137, 3) := by decide +kernel
theorem dX9_bestStep_8 : decode cX9_bestStep 8 = .ok (.astore_n 3, 1) := by decide +kernel
theorem dX9_bestStep_9 : decode cX9_bestStep 9 = .ok (.aload_n 3, 1) := by decide +kernel
theorem dX9_bestStep_10 : decode cX9_bestStep 10 = .ok (.ifnull 13, 3) := by decide +kernel
theorem dX9_bestStep_13 : decode cX9_bestStep 13 = .ok (.iload_n 2, 1) := by decide +kernel
theorem dX9_bestStep_14 : decode cX9_bestStep 14 = .ok (.iconst 0, 1) := by decide +kernel
theorem dX9_bestStep_15 : decode cX9_bestStep 15 = .ok (.bipush 99, 2) := by decide +kernel
