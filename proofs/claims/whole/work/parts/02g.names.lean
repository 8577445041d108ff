theorem dX10_buys_127 : decode cX10_buys 127 = .ok (.iaload, 1) := by decide +kernel
theorem dX10_buys_128 : decode cX10_buys 128 = .ok (.idiv, 1) := by decide +kernel
theorem dX10_buys_129 : decode cX10_buys 129 = .ok (.istore 6, 2) := by decide +kernel
theorem dX10_buys_131 : decode cX10_buys 131 = .ok (.aload_n 0, 1) := by decide +kernel
theorem dX10_buys_132 : decode cX10_buys 132 = .ok (.getfield 7, 3) := by decide +kernel
theorem dX10_buys_135 : decode cX10_buys 135 = .ok (.iload 4, 2) := by decide +kernel
theorem dX10_buys_137 : decode cX10_buys 137 = .ok (.iconst 5, 1) := by decide +kernel
theorem dX10_buys_138 : decode cX10_buys 138 = .ok (.iadd, 1) := by decide +kernel
theorem dX10_buys_139 : decode cX10_buys 139 = .ok (.iload 5, 2) := by decide +kernel
theorem dX10_buys_141 : decode cX10_buys 141 = .ok (.aload_n 0, 1) := by decide +kernel
theorem dX10_buys_142 : decode cX10_buys 142 = .ok (.getfield 7, 3) := by decide +kernel
theorem dX10_buys_145 : decode cX10_buys 145 = .ok (.iload 4, 2) := by decide +kernel
theorem dX10_buys_147 : decode cX10_buys 147 = .ok (.iconst 3, 1) := by decide +kernel
theorem dX10_buys_148 : decode cX10_buys 148 = .ok (.iadd, 1) := by decide +kernel
theorem dX10_buys_149 : decode cX10_buys 149 = .ok (.iaload, 1) := by decide +kernel
theorem dX10_buys_150 : decode cX10_buys 150 = .ok (.irem, 1) := by decide +kernel
theorem dX10_buys_151 : decode cX10_buys 151 = .ok (.iastore, 1) := by decide +kernel
theorem dX10_buys_152 : decode cX10_buys 152 = .ok (.aload_n 0, 1) := by decide +kernel
theorem dX10_buys_153 : decode cX10_buys 153 = .ok (.getfield 7, 3) := by decide +kernel
theorem dX10_buys_156 : decode cX10_buys 156 = .ok (.iload 4, 2) := by decide +kernel
theorem dX10_buys_158 : decode cX10_buys 158 = .ok (.iconst 2, 1) := by decide +kernel
theorem dX10_buys_159 : decode cX10_buys 159 = .ok (.iadd, 1) := by decide +kernel
theorem dX10_buys_160 : decode cX10_buys 160 = .ok (.aload_n 0, 1) := by decide +kernel
theorem dX10_buys_161 : decode cX10_buys 161 = .ok (.getfield 7, 3) := by decide +kernel
theorem dX10_buys_164 : decode cX10_buys 164 = .ok (.iload 4, 2) := by decide +kernel
theorem dX10_buys_166 : decode cX10_buys 166 = .ok (.iconst 2, 1) := by decide +kernel
theorem dX10_buys_167 : decode cX10_buys 167 = .ok (.iadd, 1) := by decide +kernel
theorem dX10_buys_168 : decode cX10_buys 168 = .ok (.iaload, 1) := by decide +kernel
theorem dX10_buys_169 : decode cX10_buys 169 = .ok (.iload_n 3, 1) := by decide +kernel
theorem dX10_buys_170 : decode cX10_buys 170 = .ok (.isub, 1) := by decide +kernel
theorem dX10_buys_171 : decode cX10_buys 171 = .ok (.iload 6, 2) := by decide +kernel
theorem dX10_buys_173 : decode cX10_buys 173 = .ok (.aload_n 0, 1) := by decide +kernel
theorem dX10_buys_174 : decode cX10_buys 174 = .ok (.getfield 7, 3) := by decide +kernel
theorem dX10_buys_177 : decode cX10_buys 177 = .ok (.iload 4, 2) := by decide +kernel
theorem dX10_buys_179 : decode cX10_buys 179 = .ok (.iconst 4, 1) := by decide +kernel
theorem dX10_buys_180 : decode cX10_buys 180 = .ok (.iadd, 1) := by decide +kernel
theorem dX10_buys_181 : decode cX10_buys 181 = .ok (.iaload, 1) := by decide +kernel
theorem dX10_buys_182 : decode cX10_buys 182 = .ok (.aload_n 0, 1) := by decide +kernel
theorem dX10_buys_183 : decode cX10_buys 183 = .ok (.getfield 7, 3) := by decide +kernel
theorem dX10_buys_186 : decode cX10_buys 186 = .ok (.iload 4, 2) := by decide +kernel
theorem dX10_buys_188 : decode cX10_buys 188 = .ok (.iconst 1, 1) := by decide +kernel
theorem dX10_buys_189 : decode cX10_buys 189 = .ok (.iadd, 1) := by decide +kernel
theorem dX10_buys_190 : decode cX10_buys 190 = .ok (.iaload, 1) := by decide +kernel
theorem dX10_buys_191 : decode cX10_buys 191 = .ok (.idiv, 1) := by decide +kernel
theorem dX10_buys_192 : decode cX10_buys 192 = .ok (.invokestatic 128, 3) := by decide +kernel
theorem dX10_buys_195 : decode cX10_buys 195 = .ok (.iastore, 1) := by decide +kernel
theorem dX10_buys_196 : decode cX10_buys 196 = .ok (.aload_n 0, 1) := by decide +kernel
theorem dX10_buys_197 : decode cX10_buys 197 = .ok (.getfield 7, 3) := by decide +kernel
theorem dX10_buys_200 : decode cX10_buys 200 = .ok (.iload 4, 2) := by decide +kernel
theorem dX10_buys_202 : decode cX10_buys 202 = .ok (.bipush 6, 2) := by decide +kernel
theorem dX10_buys_204 : decode cX10_buys 204 = .ok (.iadd, 1) := by decide +kernel
theorem dX10_buys_205 : decode cX10_buys 205 = .ok (.dup2, 1) := by decide +kernel
theorem dX10_buys_206 : decode cX10_buys 206 = .ok (.iaload, 1) := by decide +kernel
theorem dX10_buys_207 : decode cX10_buys 207 = .ok (.iload 6, 2) := by decide +kernel
theorem dX10_buys_209 : decode cX10_buys 209 = .ok (.iadd, 1) := by decide +kernel
theorem dX10_buys_210 : decode cX10_buys 210 = .ok (.iastore, 1) := by decide +kernel
theorem dX10_buys_211 : decode cX10_buys 211 = .ok (.aload_n 0, 1) := by decide +kernel
theorem dX10_buys_212 : decode cX10_buys 212 = .ok (.iload_n 1, 1) := by decide +kernel
theorem dX10_buys_213 : decode cX10_buys 213 = .ok (.iconst 0, 1) := by decide +kernel
theorem dX10_buys_214 : decode cX10_buys 214 = .ok (.invokevirtual 96, 3) := by decide +kernel
theorem dX10_buys_217 : decode cX10_buys 217 = .ok (.ireturn, 1) := by decide +kernel
set_option maxRecDepth 20000 in
theorem ggX10_buy_X10_keeps : GoodIn wsX10_buy wsX10_keeps := goodIn_r _ [5, 6, 7, 48, 49, 50, 51, 52, 53, 54, 55, 56, 57, 58, 59, 60, 61, 62] (by decide +kernel) (by decide +kernel)
set_option maxRecDepth 20000 in
theorem gX10_buy_X10_keeps : GoodIn wsX10_buy (wsV RX10 72 RX10 yX10_keeps wsX10_keeps) := goodIn_app (goodIn_of _ (by decide +kernel)) ggX10_buy_X10_keeps
set_option maxRecDepth 20000 in
theorem ggX10_buy_X10_buys : GoodIn wsX10_buy wsX10_buys := goodIn_r _ [11, 12, 13, 14, 7, 15, 16, 17, 4, 18, 19, 20, 21, 22, 23, 24, 25, 26, 27, 28, 29, 30, 31, 32, 33, 34, 35, 36, 37, 48, 49, 50, 51, 52, 53, 54, 55, 56, 57, 58, 59, 60, 61, 62] (by decide +kernel) (by decide +kernel)
set_option maxRecDepth 20000 in
theorem gX10_buy_X10_buys : GoodIn wsX10_buy (wsV RX10 131 RX10 yX10_buys wsX10_buys) := goodIn_app (goodIn_of _ (by decide +kernel)) ggX10_buy_X10_buys
set_option maxRecDepth 20000 in
theorem ggX10_buy_X10_acted : GoodIn wsX10_buy wsX10_acted := goodIn_r _ [41, 12, 6, 42, 43, 44, 4, 45, 46, 47, 48, 49, 50, 51, 52, 53, 54, 55, 56, 57, 58, 59, 60, 61, 62] (by decide +kernel) (by decide +kernel)
set_option maxRecDepth 20000 in
theorem gX10_buy_X10_acted : GoodIn wsX10_buy (wsV RX10 79 RX10 yX10_acted wsX10_acted) := goodIn_app (goodIn_of _ (by decide +kernel)) ggX10_buy_X10_acted
theorem dX10_buy_0 : decode cX10_buy 0 = .ok (.aload_n 0, 1) := by decide +kernel
theorem dX10_buy_1 : decode cX10_buy 1 = .ok (.invokevirtual 72, 3) := by decide +kernel
theorem dX10_buy_4 : decode cX10_buy 4 = .ok (.aload_n 0, 1) := by decide +kernel
theorem dX10_buy_5 : decode cX10_buy 5 = .ok (.aload_n 0, 1) := by decide +kernel
theorem dX10_buy_6 : decode cX10_buy 6 = .ok (.iload_n 1, 1) := by decide +kernel
theorem dX10_buy_7 : decode cX10_buy 7 = .ok (.iload_n 2, 1) := by decide +kernel
theorem dX10_buy_8 : decode cX10_buy 8 = .ok (.iload_n 3, 1) := by decide +kernel
theorem dX10_buy_9 : decode cX10_buy 9 = .ok (.invokevirtual 131, 3) := by decide +kernel
theorem dX10_buy_12 : decode cX10_buy 12 = .ok (.invokevirtual 79, 3) := by decide +kernel
theorem dX10_buy_15 : decode cX10_buy 15 = .ok (.ireturn, 1) := by decide +kernel
set_option maxRecDepth 20000 in
theorem ggX10_pointsOfAll_X10_of : GoodIn wsX10_pointsOfAll wsX10_of := goodIn_r _ [6, 1, 7, 8, 9, 10, 11, 12, 13, 14, 15, 16, 17, 18, 19, 20, 21] (by decide +kernel) (by decide +kernel)
set_option maxRecDepth 20000 in
theorem gX10_pointsOfAll_X10_of : GoodIn wsX10_pointsOfAll (wsV RX10 96 RX10 yX10_of wsX10_of) := goodIn_app (goodIn_of _ (by decide +kernel)) ggX10_pointsOfAll_X10_of
theorem dX10_pointsOfAll_0 : decode cX10_pointsOfAll 0 = .ok (.iconst 0, 1) := by decide +kernel
theorem dX10_pointsOfAll_1 : decode cX10_pointsOfAll 1 = .ok (.istore_n 1, 1) := by decide +kernel
theorem dX10_pointsOfAll_2 : decode cX10_pointsOfAll 2 = .ok (.iconst 0, 1) := by decide +kernel
theorem dX10_pointsOfAll_3 : decode cX10_pointsOfAll 3 = .ok (.istore_n 2, 1) := by decide +kernel
theorem dX10_pointsOfAll_4 : decode cX10_pointsOfAll 4 = .ok (.iload_n 2, 1) := by decide +kernel
theorem dX10_pointsOfAll_5 : decode cX10_pointsOfAll 5 = .ok (.aload_n 0, 1) := by decide +kernel
theorem dX10_pointsOfAll_6 : decode cX10_pointsOfAll 6 = .ok (.getfield 7, 3) := by decide +kernel
theorem dX10_pointsOfAll_9 : decode cX10_pointsOfAll 9 = .ok (.bipush 14, 2) := by decide +kernel
theorem dX10_pointsOfAll_11 : decode cX10_pointsOfAll 11 = .ok (.iaload, 1) := by decide +kernel
theorem dX10_pointsOfAll_12 : decode cX10_pointsOfAll 12 = .ok (.if_icmp .ge 18, 3) := by decide +kernel
theorem dX10_pointsOfAll_15 : decode cX10_pointsOfAll 15 = .ok (.iload_n 1, 1) := by decide +kernel
theorem dX10_pointsOfAll_16 : decode cX10_pointsOfAll 16 = .ok (.aload_n 0, 1) := by decide +kernel
theorem dX10_pointsOfAll_17 : decode cX10_pointsOfAll 17 = .ok (.iload_n 2, 1) := by decide +kernel
theorem dX10_pointsOfAll_18 : decode cX10_pointsOfAll 18 = .ok (.iconst 0, 1) := by decide +kernel
theorem dX10_pointsOfAll_19 : decode cX10_pointsOfAll 19 = .ok (.invokevirtual 96, 3) := by decide +kernel
theorem dX10_pointsOfAll_22 : decode cX10_pointsOfAll 22 = .ok (.iadd, 1) := by decide +kernel
theorem dX10_pointsOfAll_23 : decode cX10_pointsOfAll 23 = .ok (.istore_n 1, 1) := by decide +kernel
theorem dX10_pointsOfAll_24 : decode cX10_pointsOfAll 24 = .ok (.iinc 2 1, 3) := by decide +kernel
theorem dX10_pointsOfAll_27 : decode cX10_pointsOfAll 27 = .ok (.goto (-23), 3) := by decide +kernel
theorem dX10_pointsOfAll_30 : decode cX10_pointsOfAll 30 = .ok (.iload_n 1, 1) := by decide +kernel
theorem dX10_pointsOfAll_31 : decode cX10_pointsOfAll 31 = .ok (.ireturn, 1) := by decide +kernel
set_option maxRecDepth 20000 in
theorem ggX10_take_X10_in : GoodIn wsX10_take wsX10_in := goodIn_r _ [6] (by decide +kernel) (by decide +kernel)
set_option maxRecDepth 20000 in
theorem gX10_take_X10_in : GoodIn wsX10_take (va_wsS RX10 32 yX10_in wsX10_in) := goodIn_app (goodIn_of _ (by decide +kernel)) ggX10_take_X10_in
set_option maxRecDepth 20000 in
theorem ggX10_take_X10_keeps : GoodIn wsX10_take wsX10_keeps := goodIn_r _ [10, 11, 2, 30, 31, 32, 33, 34, 35, 36, 37, 38, 39, 40, 41, 42, 43, 44] (by decide +kernel) (by decide +kernel)
set_option maxRecDepth 20000 in
theorem gX10_take_X10_keeps : GoodIn wsX10_take (wsV RX10 72 RX10 yX10_keeps wsX10_keeps) := goodIn_app (goodIn_of _ (by decide +kernel)) ggX10_take_X10_keeps
set_option maxRecDepth 20000 in
theorem ggX10_take_X10_pointsOfAll : GoodIn wsX10_take wsX10_pointsOfAll := goodIn_r _ [15, 2, 16, 17, 18, 5, 19, 30, 31, 32, 33, 34, 35, 36, 37, 38, 39, 40, 41, 42, 43, 44] (by decide +kernel) (by decide +kernel)
set_option maxRecDepth 20000 in
theorem gX10_take_X10_pointsOfAll : GoodIn wsX10_take (wsV RX10 134 RX10 yX10_pointsOfAll wsX10_pointsOfAll) := goodIn_app (goodIn_of _ (by decide +kernel)) ggX10_take_X10_pointsOfAll
set_option maxRecDepth 20000 in
theorem ggX10_take_X10_acted : GoodIn wsX10_take wsX10_acted := goodIn_r _ [23, 1, 11, 24, 25, 26, 5, 27, 28, 29, 30, 31, 32, 33, 34, 35, 36, 37, 38, 39, 40, 41, 42, 43, 44] (by decide +kernel) (by decide +kernel)
set_option maxRecDepth 20000 in
theorem gX10_take_X10_acted : GoodIn wsX10_take (wsV RX10 79 RX10 yX10_acted wsX10_acted) := goodIn_app (goodIn_of _ (by decide +kernel)) ggX10_take_X10_acted
theorem dX10_take_0 : decode cX10_take 0 = .ok (.iload_n 1, 1) := by decide +kernel
theorem dX10_take_1 : decode cX10_take 1 = .ok (.iconst 0, 1) := by decide +kernel
theorem dX10_take_2 : decode cX10_take 2 = .ok (.iconst 1, 1) := by decide +kernel
theorem dX10_take_3 : decode cX10_take 3 = .ok (.invokestatic 32, 3) := by decide +kernel
theorem dX10_take_6 : decode cX10_take 6 = .ok (.ifCond .ne 6, 3) := by decide +kernel
theorem dX10_take_9 : decode cX10_take 9 = .ok (.ldc 40, 2) := by decide +kernel
theorem dX10_take_11 : decode cX10_take 11 = .ok (.ireturn, 1) := by decide +kernel
theorem dX10_take_12 : decode cX10_take 12 = .ok (.aload_n 0, 1) := by decide +kernel
theorem dX10_take_13 : decode cX10_take 13 = .ok (.invokevirtual 72, 3) := by decide +kernel
theorem dX10_take_16 : decode cX10_take 16 = .ok (.bipush 94, 2) := by decide +kernel
theorem dX10_take_18 : decode cX10_take 18 = .ok (.bipush 95, 2) := by decide +kernel
theorem dX10_take_20 : decode cX10_take 20 = .ok (.iload_n 1, 1) := by decide +kernel
theorem dX10_take_21 : decode cX10_take 21 = .ok (.imul, 1) := by decide +kernel
theorem dX10_take_22 : decode cX10_take 22 = .ok (.iadd, 1) := by decide +kernel
theorem dX10_take_23 : decode cX10_take 23 = .ok (.istore_n 2, 1) := by decide +kernel
theorem dX10_take_24 : decode cX10_take 24 = .ok (.aload_n 0, 1) := by decide +kernel
theorem dX10_take_25 : decode cX10_take 25 = .ok (.getfield 7, 3) := by decide +kernel
theorem dX10_take_28 : decode cX10_take 28 = .ok (.iload_n 2, 1) := by decide +kernel
theorem dX10_take_29 : decode cX10_take 29 = .ok (.iconst 1, 1) := by decide +kernel
theorem dX10_take_30 : decode cX10_take 30 = .ok (.iastore, 1) := by decide +kernel
theorem dX10_take_31 : decode cX10_take 31 = .ok (.iconst 0, 1) := by decide +kernel
theorem dX10_take_32 : decode cX10_take 32 = .ok (.istore_n 3, 1) := by decide +kernel
theorem dX10_take_33 : decode cX10_take 33 = .ok (.iload_n 3, 1) := by decide +kernel
theorem dX10_take_34 : decode cX10_take 34 = .ok (.bipush 94, 2) := by decide +kernel
theorem dX10_take_36 : decode cX10_take 36 = .ok (.if_icmp .ge 25, 3) := by decide +kernel
theorem dX10_take_39 : decode cX10_take 39 = .ok (.aload_n 0, 1) := by decide +kernel
theorem dX10_take_40 : decode cX10_take 40 = .ok (.getfield 7, 3) := by decide +kernel
theorem dX10_take_43 : decode cX10_take 43 = .ok (.iload_n 2, 1) := by decide +kernel
theorem dX10_take_44 : decode cX10_take 44 = .ok (.iconst 1, 1) := by decide +kernel
theorem dX10_take_45 : decode cX10_take 45 = .ok (.iadd, 1) := by decide +kernel
theorem dX10_take_46 : decode cX10_take 46 = .ok (.iload_n 3, 1) := by decide +kernel
theorem dX10_take_47 : decode cX10_take 47 = .ok (.iadd, 1) := by decide +kernel
theorem dX10_take_48 : decode cX10_take 48 = .ok (.aload_n 0, 1) := by decide +kernel
theorem dX10_take_49 : decode cX10_take 49 = .ok (.getfield 7, 3) := by decide +kernel
theorem dX10_take_52 : decode cX10_take 52 = .ok (.iload_n 3, 1) := by decide +kernel
theorem dX10_take_53 : decode cX10_take 53 = .ok (.iaload, 1) := by decide +kernel
theorem dX10_take_54 : decode cX10_take 54 = .ok (.iastore, 1) := by decide +kernel
theorem dX10_take_55 : decode cX10_take 55 = .ok (.iinc 3 1, 3) := by decide +kernel
theorem dX10_take_58 : decode cX10_take 58 = .ok (.goto (-25), 3) := by decide +kernel
theorem dX10_take_61 : decode cX10_take 61 = .ok (.aload_n 0, 1) := by decide +kernel
theorem dX10_take_62 : decode cX10_take 62 = .ok (.aload_n 0, 1) := by decide +kernel
theorem dX10_take_63 : decode cX10_take 63 = .ok (.invokevirtual 134, 3) := by decide +kernel
theorem dX10_take_66 : decode cX10_take 66 = .ok (.invokevirtual 79, 3) := by decide +kernel
theorem dX10_take_69 : decode cX10_take 69 = .ok (.ireturn, 1) := by decide +kernel
set_option maxRecDepth 20000 in
theorem ggX10_restore_X10_in : GoodIn wsX10_restore wsX10_in := goodIn_r _ [7] (by decide +kernel) (by decide +kernel)
set_option maxRecDepth 20000 in
theorem gX10_restore_X10_in : GoodIn wsX10_restore (va_wsS RX10 32 yX10_in wsX10_in) := goodIn_app (goodIn_of _ (by decide +kernel)) ggX10_restore_X10_in
set_option maxRecDepth 20000 in
theorem ggX10_restore_X10_keeps : GoodIn wsX10_restore wsX10_keeps := goodIn_r _ [11, 12, 2, 31, 32, 33, 34, 35, 36, 37, 38, 39, 40, 41, 42, 43, 44, 45] (by decide +kernel) (by decide +kernel)
set_option maxRecDepth 20000 in
theorem gX10_restore_X10_keeps : GoodIn wsX10_restore (wsV RX10 72 RX10 yX10_keeps wsX10_keeps) := goodIn_app (goodIn_of _ (by decide +kernel)) ggX10_restore_X10_keeps
set_option maxRecDepth 20000 in
theorem ggX10_restore_X10_pointsOfAll : GoodIn wsX10_restore wsX10_pointsOfAll := goodIn_r _ [16, 2, 17, 18, 19, 6, 20, 31, 32, 33, 34, 35, 36, 37, 38, 39, 40, 41, 42, 43, 44, 45] (by decide +kernel) (by decide +kernel)
set_option maxRecDepth 20000 in
theorem gX10_restore_X10_pointsOfAll : GoodIn wsX10_restore (wsV RX10 134 RX10 yX10_pointsOfAll wsX10_pointsOfAll) := goodIn_app (goodIn_of _ (by decide +kernel)) ggX10_restore_X10_pointsOfAll
set_option maxRecDepth 20000 in
theorem ggX10_restore_X10_acted : GoodIn wsX10_restore wsX10_acted := goodIn_r _ [24, 1, 12, 25, 26, 27, 6, 28, 29, 30, 31, 32, 33, 34, 35, 36, 37, 38, 39, 40, 41, 42, 43, 44, 45] (by decide +kernel) (by decide +kernel)
set_option maxRecDepth 20000 in
theorem gX10_restore_X10_acted : GoodIn wsX10_restore (wsV RX10 79 RX10 yX10_acted wsX10_acted) := goodIn_app (goodIn_of _ (by decide +kernel)) ggX10_restore_X10_acted
theorem dX10_restore_0 : decode cX10_restore 0 = .ok (.iload_n 1, 1) := by decide +kernel
theorem dX10_restore_1 : decode cX10_restore 1 = .ok (.iconst 0, 1) := by decide +kernel
theorem dX10_restore_2 : decode cX10_restore 2 = .ok (.iconst 1, 1) := by decide +kernel
theorem dX10_restore_3 : decode cX10_restore 3 = .ok (.invokestatic 32, 3) := by decide +kernel
theorem dX10_restore_6 : decode cX10_restore 6 = .ok (.ifCond .ne 6, 3) := by decide +kernel
theorem dX10_restore_9 : decode cX10_restore 9 = .ok (.ldc 40, 2) := by decide +kernel
theorem dX10_restore_11 : decode cX10_restore 11 = .ok (.ireturn, 1) := by decide +kernel
theorem dX10_restore_12 : decode cX10_restore 12 = .ok (.bipush 94, 2) := by decide +kernel
theorem dX10_restore_14 : decode cX10_restore 14 = .ok (.bipush 95, 2) := by decide +kernel
theorem dX10_restore_16 : decode cX10_restore 16 = .ok (.iload_n 1, 1) := by decide +kernel
theorem dX10_restore_17 : decode cX10_restore 17 = .ok (.imul, 1) := by decide +kernel
theorem dX10_restore_18 : decode cX10_restore 18 = .ok (.iadd, 1) := by decide +kernel
theorem dX10_restore_19 : decode cX10_restore 19 = .ok (.istore_n 2, 1) := by decide +kernel
theorem dX10_restore_20 : decode cX10_restore 20 = .ok (.aload_n 0, 1) := by decide +kernel
theorem dX10_restore_21 : decode cX10_restore 21 = .ok (.getfield 7, 3) := by decide +kernel
theorem dX10_restore_24 : decode cX10_restore 24 = .ok (.iload_n 2, 1) := by decide +kernel
theorem dX10_restore_25 : decode cX10_restore 25 = .ok (.iaload, 1) := by decide +kernel
theorem dX10_restore_26 : decode cX10_restore 26 = .ok (.ifCond .ne 6, 3) := by decide +kernel
theorem dX10_restore_29 : decode cX10_restore 29 = .ok (.ldc 108, 2) := by decide +kernel
theorem dX10_restore_31 : decode cX10_restore 31 = .ok (.ireturn, 1) := by decide +kernel
theorem dX10_restore_32 : decode cX10_restore 32 = .ok (.aload_n 0, 1) := by decide +kernel
theorem dX10_restore_33 : decode cX10_restore 33 = .ok (.invokevirtual 72, 3) := by decide +kernel
theorem dX10_restore_36 : decode cX10_restore 36 = .ok (.iconst 0, 1) := by decide +kernel
theorem dX10_restore_37 : decode cX10_restore 37 = .ok (.istore_n 3, 1) := by decide +kernel
theorem dX10_restore_38 : decode cX10_restore 38 = .ok (.iload_n 3, 1) := by decide +kernel
theorem dX10_restore_39 : decode cX10_restore 39 = .ok (.bipush 94, 2) := by decide +kernel
theorem dX10_restore_41 : decode cX10_restore 41 = .ok (.if_icmp .ge 25, 3) := by decide +kernel
theorem dX10_restore_44 : decode cX10_restore 44 = .ok (.aload_n 0, 1) := by decide +kernel
theorem dX10_restore_45 : decode cX10_restore 45 = .ok (.getfield 7, 3) := by decide +kernel
theorem dX10_restore_48 : decode cX10_restore 48 = .ok (.iload_n 3, 1) := by decide +kernel
theorem dX10_restore_49 : decode cX10_restore 49 = .ok (.aload_n 0, 1) := by decide +kernel
theorem dX10_restore_50 : decode cX10_restore 50 = .ok (.getfield 7, 3) := by decide +kernel
theorem dX10_restore_53 : decode cX10_restore 53 = .ok (.iload_n 2, 1) := by decide +kernel
theorem dX10_restore_54 : decode cX10_restore 54 = .ok (.iconst 1, 1) := by decide +kernel
theorem dX10_restore_55 : decode cX10_restore 55 = .ok (.iadd, 1) := by decide +kernel
theorem dX10_restore_56 : decode cX10_restore 56 = .ok (.iload_n 3, 1) := by decide +kernel
theorem dX10_restore_57 : decode cX10_restore 57 = .ok (.iadd, 1) := by decide +kernel
theorem dX10_restore_58 : decode cX10_restore 58 = .ok (.iaload, 1) := by decide +kernel
theorem dX10_restore_59 : decode cX10_restore 59 = .ok (.iastore, 1) := by decide +kernel
theorem dX10_restore_60 : decode cX10_restore 60 = .ok (.iinc 3 1, 3) := by decide +kernel
theorem dX10_restore_63 : decode cX10_restore 63 = .ok (.goto (-25), 3) := by decide +kernel
theorem dX10_restore_66 : decode cX10_restore 66 = .ok (.aload_n 0, 1) := by decide +kernel
theorem dX10_restore_67 : decode cX10_restore 67 = .ok (.aload_n 0, 1) := by decide +kernel
theorem dX10_restore_68 : decode cX10_restore 68 = .ok (.invokevirtual 134, 3) := by decide +kernel
theorem dX10_restore_71 : decode cX10_restore 71 = .ok (.invokevirtual 79, 3) := by decide +kernel
theorem dX10_restore_74 : decode cX10_restore 74 = .ok (.ireturn, 1) := by decide +kernel
theorem dX10_undo_0 : decode cX10_undo 0 = .ok (.aload_n 0, 1) := by decide +kernel
theorem dX10_undo_1 : decode cX10_undo 1 = .ok (.getfield 36, 3) := by decide +kernel
theorem dX10_undo_4 : decode cX10_undo 4 = .ok (.ifCond .ne 6, 3) := by decide +kernel
theorem dX10_undo_7 : decode cX10_undo 7 = .ok (.ldc 108, 2) := by decide +kernel
theorem dX10_undo_9 : decode cX10_undo 9 = .ok (.ireturn, 1) := by decide +kernel
theorem dX10_undo_10 : decode cX10_undo 10 = .ok (.aload_n 0, 1) := by decide +kernel
theorem dX10_undo_11 : decode cX10_undo 11 = .ok (.dup, 1) := by decide +kernel
theorem dX10_undo_12 : decode cX10_undo 12 = .ok (.getfield 36, 3) := by decide +kernel
theorem dX10_undo_15 : decode cX10_undo 15 = .ok (.iconst 1, 1) := by decide +kernel
theorem dX10_undo_16 : decode cX10_undo 16 = .ok (.isub, 1) := by decide +kernel
theorem dX10_undo_17 : decode cX10_undo 17 = .ok (.putfield 36, 3) := by decide +kernel
theorem dX10_undo_20 : decode cX10_undo 20 = .ok (.iconst 0, 1) := by decide +kernel
theorem dX10_undo_21 : decode cX10_undo 21 = .ok (.istore_n 1, 1) := by decide +kernel
theorem dX10_undo_22 : decode cX10_undo 22 = .ok (.iload_n 1, 1) := by decide +kernel
theorem dX10_undo_23 : decode cX10_undo 23 = .ok (.sipush 284, 3) := by decide +kernel
theorem dX10_undo_26 : decode cX10_undo 26 = .ok (.if_icmp .ge 30, 3) := by decide +kernel
theorem dX10_undo_29 : decode cX10_undo 29 = .ok (.aload_n 0, 1) := by decide +kernel
theorem dX10_undo_30 : decode cX10_undo 30 = .ok (.getfield 7, 3) := by decide +kernel
theorem dX10_undo_33 : decode cX10_undo 33 = .ok (.iload_n 1, 1) := by decide +kernel
theorem dX10_undo_34 : decode cX10_undo 34 = .ok (.aload_n 0, 1) := by decide +kernel
theorem dX10_undo_35 : decode cX10_undo 35 = .ok (.getfield 19, 3) := by decide +kernel
theorem dX10_undo_38 : decode cX10_undo 38 = .ok (.sipush 284, 3) := by decide +kernel
theorem dX10_undo_41 : decode cX10_undo 41 = .ok (.aload_n 0, 1) := by decide +kernel
theorem dX10_undo_42 : decode cX10_undo 42 = .ok (.getfield 36, 3) := by decide +kernel
theorem dX10_undo_45 : decode cX10_undo 45 = .ok (.imul, 1) := by decide +kernel
theorem dX10_undo_46 : decode cX10_undo 46 = .ok (.iload_n 1, 1) := by decide +kernel
theorem dX10_undo_47 : decode cX10_undo 47 = .ok (.iadd, 1) := by decide +kernel
theorem dX10_undo_48 : decode cX10_undo 48 = .ok (.iaload, 1) := by decide +kernel
theorem dX10_undo_49 : decode cX10_undo 49 = .ok (.iastore, 1) := by decide +kernel
theorem dX10_undo_50 : decode cX10_undo 50 = .ok (.iinc 1 1, 3) := by decide +kernel
theorem dX10_undo_53 : decode cX10_undo 53 = .ok (.goto (-31), 3) := by decide +kernel
theorem dX10_undo_56 : decode cX10_undo 56 = .ok (.aload_n 0, 1) := by decide +kernel
theorem dX10_undo_57 : decode cX10_undo 57 = .ok (.getfield 36, 3) := by decide +kernel
theorem dX10_undo_60 : decode cX10_undo 60 = .ok (.ireturn, 1) := by decide +kernel
set_option maxRecDepth 20000 in
theorem ggX10_append_X10_in : GoodIn wsX10_append wsX10_in := goodIn_r _ [8] (by decide +kernel) (by decide +kernel)
set_option maxRecDepth 20000 in
theorem gX10_append_X10_in : GoodIn wsX10_append (va_wsS RX10 32 yX10_in wsX10_in) := goodIn_app (goodIn_of _ (by decide +kernel)) ggX10_append_X10_in
theorem dX10_append_0 : decode cX10_append 0 = .ok (.iload_n 1, 1) := by decide +kernel
theorem dX10_append_1 : decode cX10_append 1 = .ok (.iconst 1, 1) := by decide +kernel
theorem dX10_append_2 : decode cX10_append 2 = .ok (.sipush 255, 3) := by decide +kernel
theorem dX10_append_5 : decode cX10_append 5 = .ok (.invokestatic 32, 3) := by decide +kernel
theorem dX10_append_8 : decode cX10_append 8 = .ok (.ifCond .ne 6, 3) := by decide +kernel
theorem dX10_append_11 : decode cX10_append 11 = .ok (.ldc 40, 2) := by decide +kernel
theorem dX10_append_13 : decode cX10_append 13 = .ok (.ireturn, 1) := by decide +kernel
theorem dX10_append_14 : decode cX10_append 14 = .ok (.aload_n 0, 1) := by decide +kernel
theorem dX10_append_15 : decode cX10_append 15 = .ok (.getfield 138, 3) := by decide +kernel
theorem dX10_append_18 : decode cX10_append 18 = .ok (.sipush 140, 3) := by decide +kernel
theorem dX10_append_21 : decode cX10_append 21 = .ok (.if_icmp .ne 6, 3) := by decide +kernel
theorem dX10_append_24 : decode cX10_append 24 = .ok (.ldc 89, 2) := by decide +kernel
theorem dX10_append_26 : decode cX10_append 26 = .ok (.ireturn, 1) := by decide +kernel
theorem dX10_append_27 : decode cX10_append 27 = .ok (.aload_n 0, 1) := by decide +kernel
theorem dX10_append_28 : decode cX10_append 28 = .ok (.getfield 22, 3) := by decide +kernel
theorem dX10_append_31 : decode cX10_append 31 = .ok (.aload_n 0, 1) := by decide +kernel
theorem dX10_append_32 : decode cX10_append 32 = .ok (.getfield 138, 3) := by decide +kernel
theorem dX10_append_35 : decode cX10_append 35 = .ok (.iload_n 1, 1) := by decide +kernel
theorem dX10_append_36 : decode cX10_append 36 = .ok (.i2c, 1) := by decide +kernel
theorem dX10_append_37 : decode cX10_append 37 = .ok (.castore, 1) := by decide +kernel
theorem dX10_append_38 : decode cX10_append 38 = .ok (.aload_n 0, 1) := by decide +kernel
theorem dX10_append_39 : decode cX10_append 39 = .ok (.dup, 1) := by decide +kernel
theorem dX10_append_40 : decode cX10_append 40 = .ok (.getfield 138, 3) := by decide +kernel
theorem dX10_append_43 : decode cX10_append 43 = .ok (.iconst 1, 1) := by decide +kernel
theorem dX10_append_44 : decode cX10_append 44 = .ok (.iadd, 1) := by decide +kernel
theorem dX10_append_45 : decode cX10_append 45 = .ok (.putfield 138, 3) := by decide +kernel
theorem dX10_append_48 : decode cX10_append 48 = .ok (.aload_n 0, 1) := by decide +kernel
theorem dX10_append_49 : decode cX10_append 49 = .ok (.getfield 138, 3) := by decide +kernel
theorem dX10_append_52 : decode cX10_append 52 = .ok (.ireturn, 1) := by decide +kernel
theorem dX10_clearText_0 : decode cX10_clearText 0 = .ok (.aload_n 0, 1) := by decide +kernel
theorem dX10_clearText_1 : decode cX10_clearText 1 = .ok (.getfield 138, 3) := by decide +kernel
theorem dX10_clearText_4 : decode cX10_clearText 4 = .ok (.istore_n 1, 1) := by decide +kernel
theorem dX10_clearText_5 : decode cX10_clearText 5 = .ok (.aload_n 0, 1) := by decide +kernel
theorem dX10_clearText_6 : decode cX10_clearText 6 = .ok (.iconst 0, 1) := by decide +kernel
theorem dX10_clearText_7 : decode cX10_clearText 7 = .ok (.putfield 138, 3) := by decide +kernel
theorem dX10_clearText_10 : decode cX10_clearText 10 = .ok (.iload_n 1, 1) := by decide +kernel
theorem dX10_clearText_11 : decode cX10_clearText 11 = .ok (.ireturn, 1) := by decide +kernel
set_option maxRecDepth 20000 in
theorem ggX10_isIn_X10_in : GoodIn wsX10_isIn wsX10_in := goodIn_r _ [7] (by decide +kernel) (by decide +kernel)
set_option maxRecDepth 20000 in
theorem gX10_isIn_X10_in : GoodIn wsX10_isIn (va_wsS RX10 32 yX10_in wsX10_in) := goodIn_app (goodIn_of _ (by decide +kernel)) ggX10_isIn_X10_in
theorem dX10_isIn_0 : decode cX10_isIn 0 = .ok (.aload_n 0, 1) := by decide +kernel
theorem dX10_isIn_1 : decode cX10_isIn 1 = .ok (.getfield 141, 3) := by decide +kernel
theorem dX10_isIn_4 : decode cX10_isIn 4 = .ok (.aload_n 0, 1) := by decide +kernel
theorem dX10_isIn_5 : decode cX10_isIn 5 = .ok (.getfield 138, 3) := by decide +kernel
theorem dX10_isIn_8 : decode cX10_isIn 8 = .ok (.if_icmp .ge 24, 3) := by decide +kernel
theorem dX10_isIn_11 : decode cX10_isIn 11 = .ok (.aload_n 0, 1) := by decide +kernel
theorem dX10_isIn_12 : decode cX10_isIn 12 = .ok (.getfield 22, 3) := by decide +kernel
theorem dX10_isIn_15 : decode cX10_isIn 15 = .ok (.aload_n 0, 1) := by decide +kernel
theorem dX10_isIn_16 : decode cX10_isIn 16 = .ok (.getfield 141, 3) := by decide +kernel
theorem dX10_isIn_19 : decode cX10_isIn 19 = .ok (.caload, 1) := by decide +kernel
theorem dX10_isIn_20 : decode cX10_isIn 20 = .ok (.iload_n 1, 1) := by decide +kernel
theorem dX10_isIn_21 : decode cX10_isIn 21 = .ok (.iload_n 2, 1) := by decide +kernel
theorem dX10_isIn_22 : decode cX10_isIn 22 = .ok (.invokestatic 32, 3) := by decide +kernel
theorem dX10_isIn_25 : decode cX10_isIn 25 = .ok (.ifCond .eq 7, 3) := by decide +kernel
theorem dX10_isIn_28 : decode cX10_isIn 28 = .ok (.iconst 1, 1) := by decide +kernel
theorem dX10_isIn_29 : decode cX10_isIn 29 = .ok (.goto 4, 3) := by decide +kernel
theorem dX10_isIn_32 : decode cX10_isIn 32 = .ok (.iconst 0, 1) := by decide +kernel
theorem dX10_isIn_33 : decode cX10_isIn 33 = .ok (.ireturn, 1) := by decide +kernel
set_option maxRecDepth 20000 in
theorem ggX10_reads_X10_isIn : GoodIn wsX10_reads wsX10_isIn := goodIn_r _ [10, 1, 2, 3, 11, 12, 9, 13, 14, 15, 16, 17, 18, 19, 20, 21, 22, 23, 24, 25, 26, 27, 28] (by decide +kernel) (by decide +kernel)
set_option maxRecDepth 20000 in
theorem gX10_reads_X10_isIn : GoodIn wsX10_reads (wsV RX10 147 RX10 yX10_isIn wsX10_isIn) := goodIn_app (goodIn_of _ (by decide +kernel)) ggX10_reads_X10_isIn
theorem dX10_reads_0 : decode cX10_reads 0 = .ok (.aload_n 0, 1) := by decide +kernel
theorem dX10_reads_1 : decode cX10_reads 1 = .ok (.getfield 141, 3) := by decide +kernel
theorem dX10_reads_4 : decode cX10_reads 4 = .ok (.aload_n 0, 1) := by decide +kernel
theorem dX10_reads_5 : decode cX10_reads 5 = .ok (.getfield 138, 3) := by decide +kernel
theorem dX10_reads_8 : decode cX10_reads 8 = .ok (.if_icmp .ge 30, 3) := by decide +kernel
theorem dX10_reads_11 : decode cX10_reads 11 = .ok (.aload_n 0, 1) := by decide +kernel
theorem dX10_reads_12 : decode cX10_reads 12 = .ok (.getfield 22, 3) := by decide +kernel
theorem dX10_reads_15 : decode cX10_reads 15 = .ok (.aload_n 0, 1) := by decide +kernel
theorem dX10_reads_16 : decode cX10_reads 16 = .ok (.getfield 141, 3) := by decide +kernel
theorem dX10_reads_19 : decode cX10_reads 19 = .ok (.caload, 1) := by decide +kernel
theorem dX10_reads_20 : decode cX10_reads 20 = .ok (.bipush 32, 2) := by decide +kernel
theorem dX10_reads_22 : decode cX10_reads 22 = .ok (.if_icmp .ne 16, 3) := by decide +kernel
theorem dX10_reads_25 : decode cX10_reads 25 = .ok (.aload_n 0, 1) := by decide +kernel
theorem dX10_reads_26 : decode cX10_reads 26 = .ok (.dup, 1) := by decide +kernel
theorem dX10_reads_27 : decode cX10_reads 27 = .ok (.getfield 141, 3) := by decide +kernel
theorem dX10_reads_30 : decode cX10_reads 30 = .ok (.iconst 1, 1) := by decide +kernel
theorem dX10_reads_31 : decode cX10_reads 31 = .ok (.iadd, 1) := by decide +kernel
theorem dX10_reads_32 : decode cX10_reads 32 = .ok (.putfield 141, 3) := by decide +kernel
theorem dX10_reads_35 : decode cX10_reads 35 = .ok (.goto (-35), 3) := by decide +kernel
theorem dX10_reads_38 : decode cX10_reads 38 = .ok (.aload_n 0, 1) := by decide +kernel
theorem dX10_reads_39 : decode cX10_reads 39 = .ok (.aload_n 0, 1) := by decide +kernel
theorem dX10_reads_40 : decode cX10_reads 40 = .ok (.getfield 141, 3) := by decide +kernel
theorem dX10_reads_43 : decode cX10_reads 43 = .ok (.putfield 144, 3) := by decide +kernel
theorem dX10_reads_46 : decode cX10_reads 46 = .ok (.aload_n 0, 1) := by decide +kernel
theorem dX10_reads_47 : decode cX10_reads 47 = .ok (.aload_n 0, 1) := by decide +kernel
theorem dX10_reads_48 : decode cX10_reads 48 = .ok (.getfield 141, 3) := by decide +kernel
theorem dX10_reads_51 : decode cX10_reads 51 = .ok (.aload_n 0, 1) := by decide +kernel
theorem dX10_reads_52 : decode cX10_reads 52 = .ok (.getfield 138, 3) := by decide +kernel
theorem dX10_reads_55 : decode cX10_reads 55 = .ok (.if_icmp .ne 7, 3) := by decide +kernel
theorem dX10_reads_58 : decode cX10_reads 58 = .ok (.iconst 0, 1) := by decide +kernel
theorem dX10_reads_59 : decode cX10_reads 59 = .ok (.goto 34, 3) := by decide +kernel
theorem dX10_reads_62 : decode cX10_reads 62 = .ok (.aload_n 0, 1) := by decide +kernel
theorem dX10_reads_63 : decode cX10_reads 63 = .ok (.bipush 97, 2) := by decide +kernel
theorem dX10_reads_65 : decode cX10_reads 65 = .ok (.bipush 122, 2) := by decide +kernel
theorem dX10_reads_67 : decode cX10_reads 67 = .ok (.invokevirtual 147, 3) := by decide +kernel
theorem dX10_reads_70 : decode cX10_reads 70 = .ok (.ifCond .eq 7, 3) := by decide +kernel
theorem dX10_reads_73 : decode cX10_reads 73 = .ok (.iconst 1, 1) := by decide +kernel
theorem dX10_reads_74 : decode cX10_reads 74 = .ok (.goto 19, 3) := by decide +kernel
theorem dX10_reads_77 : decode cX10_reads 77 = .ok (.aload_n 0, 1) := by decide +kernel
theorem dX10_reads_78 : decode cX10_reads 78 = .ok (.bipush 48, 2) := by decide +kernel
theorem dX10_reads_80 : decode cX10_reads 80 = .ok (.bipush 57, 2) := by decide +kernel
theorem dX10_reads_82 : decode cX10_reads 82 = .ok (.invokevirtual 147, 3) := by decide +kernel
theorem dX10_reads_85 : decode cX10_reads 85 = .ok (.ifCond .eq 7, 3) := by decide +kernel
theorem dX10_reads_88 : decode cX10_reads 88 = .ok (.iconst 2, 1) := by decide +kernel
theorem dX10_reads_89 : decode cX10_reads 89 = .ok (.goto 4, 3) := by decide +kernel
theorem dX10_reads_92 : decode cX10_reads 92 = .ok (.iconst 3, 1) := by decide +kernel
theorem dX10_reads_93 : decode cX10_reads 93 = .ok (.putfield 150, 3) := by decide +kernel
theorem dX10_reads_96 : decode cX10_reads 96 = .ok (.aload_n 0, 1) := by decide +kernel
theorem dX10_reads_97 : decode cX10_reads 97 = .ok (.getfield 150, 3) := by decide +kernel
theorem dX10_reads_100 : decode cX10_reads 100 = .ok (.iconst 1, 1) := by decide +kernel
theorem dX10_reads_101 : decode cX10_reads 101 = .ok (.if_icmp .ne 14, 3) := by decide +kernel
theorem dX10_reads_104 : decode cX10_reads 104 = .ok (.aload_n 0, 1) := by decide +kernel
theorem dX10_reads_105 : decode cX10_reads 105 = .ok (.bipush 97, 2) := by decide +kernel
theorem dX10_reads_107 : decode cX10_reads 107 = .ok (.bipush 122, 2) := by decide +kernel
theorem dX10_reads_109 : decode cX10_reads 109 = .ok (.invokevirtual 147, 3) := by decide +kernel
theorem dX10_reads_112 : decode cX10_reads 112 = .ok (.ifCond .ne 22, 3) := by decide +kernel
theorem dX10_reads_115 : decode cX10_reads 115 = .ok (.aload_n 0, 1) := by decide +kernel
theorem dX10_reads_116 : decode cX10_reads 116 = .ok (.getfield 150, 3) := by decide +kernel
theorem dX10_reads_119 : decode cX10_reads 119 = .ok (.iconst 2, 1) := by decide +kernel
theorem dX10_reads_120 : decode cX10_reads 120 = .ok (.if_icmp .ne 27, 3) := by decide +kernel
theorem dX10_reads_123 : decode cX10_reads 123 = .ok (.aload_n 0, 1) := by decide +kernel
theorem dX10_reads_124 : decode cX10_reads 124 = .ok (.bipush 48, 2) := by decide +kernel
theorem dX10_reads_126 : decode cX10_reads 126 = .ok (.bipush 57, 2) := by decide +kernel
theorem dX10_reads_128 : decode cX10_reads 128 = .ok (.invokevirtual 147, 3) := by decide +kernel
theorem dX10_reads_131 : decode cX10_reads 131 = .ok (.ifCond .eq 16, 3) := by decide +kernel
theorem dX10_reads_134 : decode cX10_reads 134 = .ok (.aload_n 0, 1) := by decide +kernel
theorem dX10_reads_135 : decode cX10_reads 135 = .ok (.dup, 1) := by decide +kernel
theorem dX10_reads_136 : decode cX10_reads 136 = .ok (.getfield 141, 3) := by decide +kernel
theorem dX10_reads_139 : decode cX10_reads 139 = .ok (.iconst 1, 1) := by decide +kernel
theorem dX10_reads_140 : decode cX10_reads 140 = .ok (.iadd, 1) := by decide +kernel
theorem dX10_reads_141 : decode cX10_reads 141 = .ok (.putfield 141, 3) := by decide +kernel
theorem dX10_reads_144 : decode cX10_reads 144 = .ok (.goto (-48), 3) := by decide +kernel
theorem dX10_reads_147 : decode cX10_reads 147 = .ok (.aload_n 0, 1) := by decide +kernel
theorem dX10_reads_148 : decode cX10_reads 148 = .ok (.dup, 1) := by decide +kernel
theorem dX10_reads_149 : decode cX10_reads 149 = .ok (.getfield 141, 3) := by decide +kernel
theorem dX10_reads_152 : decode cX10_reads 152 = .ok (.aload_n 0, 1) := by decide +kernel
theorem dX10_reads_153 : decode cX10_reads 153 = .ok (.getfield 150, 3) := by decide +kernel
theorem dX10_reads_156 : decode cX10_reads 156 = .ok (.iconst 3, 1) := by decide +kernel
theorem dX10_reads_157 : decode cX10_reads 157 = .ok (.if_icmp .ne 7, 3) := by decide +kernel
theorem dX10_reads_160 : decode cX10_reads 160 = .ok (.iconst 1, 1) := by decide +kernel
theorem dX10_reads_161 : decode cX10_reads 161 = .ok (.goto 4, 3) := by decide +kernel
theorem dX10_reads_164 : decode cX10_reads 164 = .ok (.iconst 0, 1) := by decide +kernel
theorem dX10_reads_165 : decode cX10_reads 165 = .ok (.iadd, 1) := by decide +kernel
theorem dX10_reads_166 : decode cX10_reads 166 = .ok (.putfield 141, 3) := by decide +kernel
theorem dX10_reads_169 : decode cX10_reads 169 = .ok (.return_, 1) := by decide +kernel
theorem dX10_numbers_0 : decode cX10_numbers 0 = .ok (.iload_n 0, 1) := by decide +kernel
theorem dX10_numbers_1 : decode cX10_numbers 1 = .ok (.lookupswitch 83 #[(2745, 79), (114085, 75), (370116, 79), (611717, 75), (3540269, 77), (17377093, 81), (20022661, 77), (24290536, 79)], 75) := by decide +kernel
theorem dX10_numbers_76 : decode cX10_numbers 76 = .ok (.iconst 1, 1) := by decide +kernel
theorem dX10_numbers_77 : decode cX10_numbers 77 = .ok (.ireturn, 1) := by decide +kernel
theorem dX10_numbers_78 : decode cX10_numbers 78 = .ok (.iconst 2, 1) := by decide +kernel
theorem dX10_numbers_79 : decode cX10_numbers 79 = .ok (.ireturn, 1) := by decide +kernel
theorem dX10_numbers_80 : decode cX10_numbers 80 = .ok (.iconst 3, 1) := by decide +kernel
theorem dX10_numbers_81 : decode cX10_numbers 81 = .ok (.ireturn, 1) := by decide +kernel
theorem dX10_numbers_82 : decode cX10_numbers 82 = .ok (.iconst 5, 1) := by decide +kernel
theorem dX10_numbers_83 : decode cX10_numbers 83 = .ok (.ireturn, 1) := by decide +kernel
theorem dX10_numbers_84 : decode cX10_numbers 84 = .ok (.iconst (-1), 1) := by decide +kernel
theorem dX10_numbers_85 : decode cX10_numbers 85 = .ok (.ireturn, 1) := by decide +kernel
theorem dX10_word_0 : decode cX10_word 0 = .ok (.iconst 0, 1) := by decide +kernel
theorem dX10_word_1 : decode cX10_word 1 = .ok (.istore_n 1, 1) := by decide +kernel
theorem dX10_word_2 : decode cX10_word 2 = .ok (.aload_n 0, 1) := by decide +kernel
theorem dX10_word_3 : decode cX10_word 3 = .ok (.getfield 144, 3) := by decide +kernel
theorem dX10_word_6 : decode cX10_word 6 = .ok (.istore_n 2, 1) := by decide +kernel
theorem dX10_word_7 : decode cX10_word 7 = .ok (.iload_n 2, 1) := by decide +kernel
theorem dX10_word_8 : decode cX10_word 8 = .ok (.aload_n 0, 1) := by decide +kernel
theorem dX10_word_9 : decode cX10_word 9 = .ok (.getfield 141, 3) := by decide +kernel
theorem dX10_word_12 : decode cX10_word 12 = .ok (.if_icmp .ge 38, 3) := by decide +kernel
theorem dX10_word_15 : decode cX10_word 15 = .ok (.aload_n 0, 1) := by decide +kernel
theorem dX10_word_16 : decode cX10_word 16 = .ok (.getfield 141, 3) := by decide +kernel
theorem dX10_word_19 : decode cX10_word 19 = .ok (.aload_n 0, 1) := by decide +kernel
theorem dX10_word_20 : decode cX10_word 20 = .ok (.getfield 144, 3) := by decide +kernel
theorem dX10_word_23 : decode cX10_word 23 = .ok (.isub, 1) := by decide +kernel
theorem dX10_word_24 : decode cX10_word 24 = .ok (.bipush 6, 2) := by decide +kernel
theorem dX10_word_26 : decode cX10_word 26 = .ok (.if_icmp .ge 24, 3) := by decide +kernel
theorem dX10_word_29 : decode cX10_word 29 = .ok (.bipush 32, 2) := by decide +kernel
theorem dX10_word_31 : decode cX10_word 31 = .ok (.iload_n 1, 1) := by decide +kernel
theorem dX10_word_32 : decode cX10_word 32 = .ok (.imul, 1) := by decide +kernel
theorem dX10_word_33 : decode cX10_word 33 = .ok (.aload_n 0, 1) := by decide +kernel
theorem dX10_word_34 : decode cX10_word 34 = .ok (.getfield 22, 3) := by decide +kernel
theorem dX10_word_37 : decode cX10_word 37 = .ok (.iload_n 2, 1) := by decide +kernel
theorem dX10_word_38 : decode cX10_word 38 = .ok (.caload, 1) := by decide +kernel
theorem dX10_word_39 : decode cX10_word 39 = .ok (.iadd, 1) := by decide +kernel
theorem dX10_word_40 : decode cX10_word 40 = .ok (.bipush 96, 2) := by decide +kernel
theorem dX10_word_42 : decode cX10_word 42 = .ok (.isub, 1) := by decide +kernel
theorem dX10_word_43 : decode cX10_word 43 = .ok (.istore_n 1, 1) := by decide +kernel
theorem dX10_word_44 : decode cX10_word 44 = .ok (.iinc 2 1, 3) := by decide +kernel
theorem dX10_word_47 : decode cX10_word 47 = .ok (.goto (-40), 3) := by decide +kernel
theorem dX10_word_50 : decode cX10_word 50 = .ok (.iload_n 1, 1) := by decide +kernel
theorem dX10_word_51 : decode cX10_word 51 = .ok (.ireturn, 1) := by decide +kernel
theorem dX10_isNumber_0 : decode cX10_isNumber 0 = .ok (.aload_n 0, 1) := by decide +kernel
theorem dX10_isNumber_1 : decode cX10_isNumber 1 = .ok (.getfield 150, 3) := by decide +kernel
theorem dX10_isNumber_4 : decode cX10_isNumber 4 = .ok (.iconst 2, 1) := by decide +kernel
theorem dX10_isNumber_5 : decode cX10_isNumber 5 = .ok (.if_icmp .ne 48, 3) := by decide +kernel
theorem dX10_isNumber_8 : decode cX10_isNumber 8 = .ok (.aload_n 0, 1) := by decide +kernel
theorem dX10_isNumber_9 : decode cX10_isNumber 9 = .ok (.getfield 141, 3) := by decide +kernel
theorem dX10_isNumber_12 : decode cX10_isNumber 12 = .ok (.aload_n 0, 1) := by decide +kernel
theorem dX10_isNumber_13 : decode cX10_isNumber 13 = .ok (.getfield 144, 3) := by decide +kernel
theorem dX10_isNumber_16 : decode cX10_isNumber 16 = .ok (.isub, 1) := by decide +kernel
theorem dX10_isNumber_17 : decode cX10_isNumber 17 = .ok (.bipush 6, 2) := by decide +kernel
theorem dX10_isNumber_19 : decode cX10_isNumber 19 = .ok (.if_icmp .gt 34, 3) := by decide +kernel
theorem dX10_isNumber_22 : decode cX10_isNumber 22 = .ok (.aload_n 0, 1) := by decide +kernel
theorem dX10_isNumber_23 : decode cX10_isNumber 23 = .ok (.getfield 141, 3) := by decide +kernel
theorem dX10_isNumber_26 : decode cX10_isNumber 26 = .ok (.aload_n 0, 1) := by decide +kernel
theorem dX10_isNumber_27 : decode cX10_isNumber 27 = .ok (.getfield 144, 3) := by decide +kernel
theorem dX10_isNumber_30 : decode cX10_isNumber 30 = .ok (.isub, 1) := by decide +kernel
theorem dX10_isNumber_31 : decode cX10_isNumber 31 = .ok (.iconst 1, 1) := by decide +kernel
theorem dX10_isNumber_32 : decode cX10_isNumber 32 = .ok (.if_icmp .eq 17, 3) := by decide +kernel
theorem dX10_isNumber_35 : decode cX10_isNumber 35 = .ok (.aload_n 0, 1) := by decide +kernel
theorem dX10_isNumber_36 : decode cX10_isNumber 36 = .ok (.getfield 22, 3) := by decide +kernel
theorem dX10_isNumber_39 : decode cX10_isNumber 39 = .ok (.aload_n 0, 1) := by decide +kernel
theorem dX10_isNumber_40 : decode cX10_isNumber 40 = .ok (.getfield 144, 3) := by decide +kernel
theorem dX10_isNumber_43 : decode cX10_isNumber 43 = .ok (.caload, 1) := by decide +kernel
theorem dX10_isNumber_44 : decode cX10_isNumber 44 = .ok (.bipush 48, 2) := by decide +kernel
theorem dX10_isNumber_46 : decode cX10_isNumber 46 = .ok (.if_icmp .eq 7, 3) := by decide +kernel
theorem dX10_isNumber_49 : decode cX10_isNumber 49 = .ok (.iconst 1, 1) := by decide +kernel
theorem dX10_isNumber_50 : decode cX10_isNumber 50 = .ok (.goto 4, 3) := by decide +kernel
theorem dX10_isNumber_53 : decode cX10_isNumber 53 = .ok (.iconst 0, 1) := by decide +kernel
theorem dX10_isNumber_54 : decode cX10_isNumber 54 = .ok (.ireturn, 1) := by decide +kernel
theorem dX10_value_0 : decode cX10_value 0 = .ok (.iconst 0, 1) := by decide +kernel
theorem dX10_value_1 : decode cX10_value 1 = .ok (.istore_n 1, 1) := by decide +kernel
theorem dX10_value_2 : decode cX10_value 2 = .ok (.aload_n 0, 1) := by decide +kernel
theorem dX10_value_3 : decode cX10_value 3 = .ok (.getfield 144, 3) := by decide +kernel
theorem dX10_value_6 : decode cX10_value 6 = .ok (.istore_n 2, 1) := by decide +kernel
theorem dX10_value_7 : decode cX10_value 7 = .ok (.iload_n 2, 1) := by decide +kernel
theorem dX10_value_8 : decode cX10_value 8 = .ok (.aload_n 0, 1) := by decide +kernel
theorem dX10_value_9 : decode cX10_value 9 = .ok (.getfield 141, 3) := by decide +kernel
theorem dX10_value_12 : decode cX10_value 12 = .ok (.if_icmp .ge 24, 3) := by decide +kernel
theorem dX10_value_15 : decode cX10_value 15 = .ok (.bipush 10, 2) := by decide +kernel
theorem dX10_value_17 : decode cX10_value 17 = .ok (.iload_n 1, 1) := by decide +kernel
theorem dX10_value_18 : decode cX10_value 18 = .ok (.imul, 1) := by decide +kernel
theorem dX10_value_19 : decode cX10_value 19 = .ok (.aload_n 0, 1) := by decide +kernel
theorem dX10_value_20 : decode cX10_value 20 = .ok (.getfield 22, 3) := by decide +kernel
theorem dX10_value_23 : decode cX10_value 23 = .ok (.iload_n 2, 1) := by decide +kernel
theorem dX10_value_24 : decode cX10_value 24 = .ok (.caload, 1) := by decide +kernel
theorem dX10_value_25 : decode cX10_value 25 = .ok (.iadd, 1) := by decide +kernel
theorem dX10_value_26 : decode cX10_value 26 = .ok (.bipush 48, 2) := by decide +kernel
theorem dX10_value_28 : decode cX10_value 28 = .ok (.isub, 1) := by decide +kernel
theorem dX10_value_29 : decode cX10_value 29 = .ok (.istore_n 1, 1) := by decide +kernel
theorem dX10_value_30 : decode cX10_value 30 = .ok (.iinc 2 1, 3) := by decide +kernel
theorem dX10_value_33 : decode cX10_value 33 = .ok (.goto (-26), 3) := by decide +kernel
theorem dX10_value_36 : decode cX10_value 36 = .ok (.iload_n 1, 1) := by decide +kernel
theorem dX10_value_37 : decode cX10_value 37 = .ok (.ireturn, 1) := by decide +kernel
set_option maxRecDepth 20000 in
theorem ggX10_does_X10_kinds : GoodIn wsX10_does wsX10_kinds := goodIn_r _ [6, 7, 8, 9, 10, 5, 11, 12, 13, 14, 96, 97, 98, 99, 100, 101, 102, 103, 104, 105, 106, 107, 108, 109, 110] (by decide +kernel) (by decide +kernel)
set_option maxRecDepth 20000 in
theorem gX10_does_X10_kinds : GoodIn wsX10_does (wsV RX10 75 RX10 yX10_kinds wsX10_kinds) := goodIn_app (goodIn_of _ (by decide +kernel)) ggX10_does_X10_kinds
set_option maxRecDepth 20000 in
theorem ggX10_does_X10_scales : GoodIn wsX10_does wsX10_scales := goodIn_r _ [18, 7, 8, 12, 13, 5, 14, 96, 97, 98, 99, 100, 101, 102, 103, 104, 105, 106, 107, 108, 109, 110] (by decide +kernel) (by decide +kernel)
set_option maxRecDepth 20000 in
theorem gX10_does_X10_scales : GoodIn wsX10_does (wsV RX10 82 RX10 yX10_scales wsX10_scales) := goodIn_app (goodIn_of _ (by decide +kernel)) ggX10_does_X10_scales
set_option maxRecDepth 20000 in
theorem ggX10_does_X10_sets : GoodIn wsX10_does wsX10_sets := goodIn_r _ [22, 7, 8, 12, 13, 5, 14, 96, 97, 98, 99, 100, 101, 102, 103, 104, 105, 106, 107, 108, 109, 110] (by decide +kernel) (by decide +kernel)
set_option maxRecDepth 20000 in
theorem gX10_does_X10_sets : GoodIn wsX10_does (wsV RX10 85 RX10 yX10_sets wsX10_sets) := goodIn_app (goodIn_of _ (by decide +kernel)) ggX10_does_X10_sets
set_option maxRecDepth 20000 in
theorem ggX10_does_X10_comes : GoodIn wsX10_does wsX10_comes := goodIn_r _ [26, 7, 8, 27, 12, 13, 5, 14, 96, 97, 98, 99, 100, 101, 102, 103, 104, 105, 106, 107, 108, 109, 110] (by decide +kernel) (by decide +kernel)
set_option maxRecDepth 20000 in
theorem gX10_does_X10_comes : GoodIn wsX10_does (wsV RX10 90 RX10 yX10_comes wsX10_comes) := goodIn_app (goodIn_of _ (by decide +kernel)) ggX10_does_X10_comes
set_option maxRecDepth 20000 in
theorem ggX10_does_X10_adds : GoodIn wsX10_does wsX10_adds := goodIn_r _ [31, 32, 7, 8, 27, 12, 13, 5, 14, 96, 97, 98, 99, 100, 101, 102, 103, 104, 105, 106, 107, 108, 109, 110] (by decide +kernel) (by decide +kernel)
set_option maxRecDepth 20000 in
theorem gX10_does_X10_adds : GoodIn wsX10_does (wsV RX10 116 RX10 yX10_adds wsX10_adds) := goodIn_app (goodIn_of _ (by decide +kernel)) ggX10_does_X10_adds
set_option maxRecDepth 20000 in
theorem ggX10_does_X10_weighs : GoodIn wsX10_does wsX10_weighs := goodIn_r _ [36, 8, 7, 37, 38, 39, 5, 40, 12, 13, 14, 9, 10, 11, 41, 42, 43, 44, 45, 46, 47, 48, 49, 50, 51, 52, 53, 54, 55, 56, 57, 58, 59, 60, 61, 62, 63, 64, 65, 66, 67, 96, 97, 98, 99, 100, 101, 102, 103, 104, 105, 106, 107, 108, 109, 110] (by decide +kernel) (by decide +kernel)
set_option maxRecDepth 20000 in
theorem gX10_does_X10_weighs : GoodIn wsX10_does (wsV RX10 105 RX10 yX10_weighs wsX10_weighs) := goodIn_app (goodIn_of _ (by decide +kernel)) ggX10_does_X10_weighs
set_option maxRecDepth 20000 in
theorem ggX10_does_X10_claims : GoodIn wsX10_does wsX10_claims := goodIn_r _ [71, 7, 72, 8, 53, 54, 37, 38, 39, 5, 40, 12, 13, 14, 73, 74, 75, 76, 55, 56, 57, 58, 59, 60, 61, 62, 63, 45, 46, 47, 64, 65, 66, 67, 77, 78, 79, 96, 97, 98, 99, 100, 101, 102, 103, 104, 105, 106, 107, 108, 109, 110] (by decide +kernel) (by decide +kernel)
set_option maxRecDepth 20000 in
theorem gX10_does_X10_claims : GoodIn wsX10_does (wsV RX10 112 RX10 yX10_claims wsX10_claims) := goodIn_app (goodIn_of _ (by decide +kernel)) ggX10_does_X10_claims
set_option maxRecDepth 20000 in
theorem ggX10_does_X10_buys : GoodIn wsX10_does wsX10_buys := goodIn_r _ [83, 7, 72, 27, 8, 37, 38, 39, 5, 40, 12, 13, 14, 84, 85, 86, 87, 73, 74, 75, 76, 88, 89, 90, 91, 92, 93, 94, 95, 96, 97, 98, 99, 100, 101, 102, 103, 104, 105, 106, 107, 108, 109, 110] (by decide +kernel) (by decide +kernel)
set_option maxRecDepth 20000 in
theorem gX10_does_X10_buys : GoodIn wsX10_does (wsV RX10 131 RX10 yX10_buys wsX10_buys) := goodIn_app (goodIn_of _ (by decide +kernel)) ggX10_does_X10_buys
theorem dX10_does_0 : decode cX10_does 0 = .ok (.iload_n 1, 1) := by decide +kernel
theorem dX10_does_1 : decode cX10_does 1 = .ok (.lookupswitch 209 #[(114085, 122), (370116, 67), (611717, 107), (3540269, 192), (17377093, 133), (20022661, 90), (24290536, 168)], 67) := by decide +kernel
theorem dX10_does_68 : decode cX10_does 68 = .ok (.aload_n 0, 1) := by decide +kernel
theorem dX10_does_69 : decode cX10_does 69 = .ok (.aload_n 0, 1) := by decide +kernel
theorem dX10_does_70 : decode cX10_does 70 = .ok (.getfield 29, 3) := by decide +kernel
theorem dX10_does_73 : decode cX10_does 73 = .ok (.iconst 0, 1) := by decide +kernel
theorem dX10_does_74 : decode cX10_does 74 = .ok (.iaload, 1) := by decide +kernel
theorem dX10_does_75 : decode cX10_does 75 = .ok (.aload_n 0, 1) := by decide +kernel
theorem dX10_does_76 : decode cX10_does 76 = .ok (.getfield 29, 3) := by decide +kernel
theorem dX10_does_79 : decode cX10_does 79 = .ok (.iconst 1, 1) := by decide +kernel
theorem dX10_does_80 : decode cX10_does 80 = .ok (.iaload, 1) := by decide +kernel
theorem dX10_does_81 : decode cX10_does 81 = .ok (.aload_n 0, 1) := by decide +kernel
theorem dX10_does_82 : decode cX10_does 82 = .ok (.getfield 29, 3) := by decide +kernel
theorem dX10_does_85 : decode cX10_does 85 = .ok (.iconst 2, 1) := by decide +kernel
theorem dX10_does_86 : decode cX10_does 86 = .ok (.iaload, 1) := by decide +kernel
theorem dX10_does_87 : decode cX10_does 87 = .ok (.invokevirtual 75, 3) := by decide +kernel
theorem dX10_does_90 : decode cX10_does 90 = .ok (.ireturn, 1) := by decide +kernel
theorem dX10_does_91 : decode cX10_does 91 = .ok (.aload_n 0, 1) := by decide +kernel
theorem dX10_does_92 : decode cX10_does 92 = .ok (.aload_n 0, 1) := by decide +kernel
theorem dX10_does_93 : decode cX10_does 93 = .ok (.getfield 29, 3) := by decide +kernel
theorem dX10_does_96 : decode cX10_does 96 = .ok (.iconst 0, 1) := by decide +kernel
theorem dX10_does_97 : decode cX10_does 97 = .ok (.iaload, 1) := by decide +kernel
theorem dX10_does_98 : decode cX10_does 98 = .ok (.aload_n 0, 1) := by decide +kernel
theorem dX10_does_99 : decode cX10_does 99 = .ok (.getfield 29, 3) := by decide +kernel
theorem dX10_does_102 : decode cX10_does 102 = .ok (.iconst 1, 1) := by decide +kernel
theorem dX10_does_103 : decode cX10_does 103 = .ok (.iaload, 1) := by decide +kernel
theorem dX10_does_104 : decode cX10_does 104 = .ok (.invokevirtual 82, 3) := by decide +kernel
theorem dX10_does_107 : decode cX10_does 107 = .ok (.ireturn, 1) := by decide +kernel
theorem dX10_does_108 : decode cX10_does 108 = .ok (.aload_n 0, 1) := by decide +kernel
theorem dX10_does_109 : decode cX10_does 109 = .ok (.bipush 11, 2) := by decide +kernel
theorem dX10_does_111 : decode cX10_does 111 = .ok (.aload_n 0, 1) := by decide +kernel
theorem dX10_does_112 : decode cX10_does 112 = .ok (.getfield 29, 3) := by decide +kernel
theorem dX10_does_115 : decode cX10_does 115 = .ok (.iconst 0, 1) := by decide +kernel
theorem dX10_does_116 : decode cX10_does 116 = .ok (.iaload, 1) := by decide +kernel
theorem dX10_does_117 : decode cX10_does 117 = .ok (.iconst 0, 1) := by decide +kernel
theorem dX10_does_118 : decode cX10_does 118 = .ok (.iconst 3, 1) := by decide +kernel
theorem dX10_does_119 : decode cX10_does 119 = .ok (.invokevirtual 85, 3) := by decide +kernel
theorem dX10_does_122 : decode cX10_does 122 = .ok (.ireturn, 1) := by decide +kernel
theorem dX10_does_123 : decode cX10_does 123 = .ok (.aload_n 0, 1) := by decide +kernel
theorem dX10_does_124 : decode cX10_does 124 = .ok (.aload_n 0, 1) := by decide +kernel
theorem dX10_does_125 : decode cX10_does 125 = .ok (.getfield 29, 3) := by decide +kernel
theorem dX10_does_128 : decode cX10_does 128 = .ok (.iconst 0, 1) := by decide +kernel
theorem dX10_does_129 : decode cX10_does 129 = .ok (.iaload, 1) := by decide +kernel
theorem dX10_does_130 : decode cX10_does 130 = .ok (.invokevirtual 90, 3) := by decide +kernel
theorem dX10_does_133 : decode cX10_does 133 = .ok (.ireturn, 1) := by decide +kernel
theorem dX10_does_134 : decode cX10_does 134 = .ok (.aload_n 0, 1) := by decide +kernel
theorem dX10_does_135 : decode cX10_does 135 = .ok (.aload_n 0, 1) := by decide +kernel
theorem dX10_does_136 : decode cX10_does 136 = .ok (.getfield 29, 3) := by decide +kernel
theorem dX10_does_139 : decode cX10_does 139 = .ok (.iconst 0, 1) := by decide +kernel
theorem dX10_does_140 : decode cX10_does 140 = .ok (.iaload, 1) := by decide +kernel
theorem dX10_does_141 : decode cX10_does 141 = .ok (.aload_n 0, 1) := by decide +kernel
theorem dX10_does_142 : decode cX10_does 142 = .ok (.getfield 29, 3) := by decide +kernel
theorem dX10_does_145 : decode cX10_does 145 = .ok (.iconst 1, 1) := by decide +kernel
theorem dX10_does_146 : decode cX10_does 146 = .ok (.iaload, 1) := by decide +kernel
theorem dX10_does_147 : decode cX10_does 147 = .ok (.aload_n 0, 1) := by decide +kernel
theorem dX10_does_148 : decode cX10_does 148 = .ok (.getfield 29, 3) := by decide +kernel
theorem dX10_does_151 : decode cX10_does 151 = .ok (.iconst 2, 1) := by decide +kernel
theorem dX10_does_152 : decode cX10_does 152 = .ok (.iaload, 1) := by decide +kernel
theorem dX10_does_153 : decode cX10_does 153 = .ok (.aload_n 0, 1) := by decide +kernel
theorem dX10_does_154 : decode cX10_does 154 = .ok (.getfield 29, 3) := by decide +kernel
theorem dX10_does_157 : decode cX10_does 157 = .ok (.iconst 3, 1) := by decide +kernel
theorem dX10_does_158 : decode cX10_does 158 = .ok (.iaload, 1) := by decide +kernel
theorem dX10_does_159 : decode cX10_does 159 = .ok (.aload_n 0, 1) := by decide +kernel
theorem dX10_does_160 : decode cX10_does 160 = .ok (.getfield 29, 3) := by decide +kernel
theorem dX10_does_163 : decode cX10_does 163 = .ok (.iconst 4, 1) := by decide +kernel
theorem dX10_does_164 : decode cX10_does 164 = .ok (.iaload, 1) := by decide +kernel
theorem dX10_does_165 : decode cX10_does 165 = .ok (.invokevirtual 116, 3) := by decide +kernel
theorem dX10_does_168 : decode cX10_does 168 = .ok (.ireturn, 1) := by decide +kernel
theorem dX10_does_169 : decode cX10_does 169 = .ok (.aload_n 0, 1) := by decide +kernel
theorem dX10_does_170 : decode cX10_does 170 = .ok (.aload_n 0, 1) := by decide +kernel
theorem dX10_does_171 : decode cX10_does 171 = .ok (.getfield 29, 3) := by decide +kernel
theorem dX10_does_174 : decode cX10_does 174 = .ok (.iconst 0, 1) := by decide +kernel
theorem dX10_does_175 : decode cX10_does 175 = .ok (.iaload, 1) := by decide +kernel
theorem dX10_does_176 : decode cX10_does 176 = .ok (.aload_n 0, 1) := by decide +kernel
theorem dX10_does_177 : decode cX10_does 177 = .ok (.getfield 29, 3) := by decide +kernel
theorem dX10_does_180 : decode cX10_does 180 = .ok (.iconst 1, 1) := by decide +kernel
theorem dX10_does_181 : decode cX10_does 181 = .ok (.iaload, 1) := by decide +kernel
theorem dX10_does_182 : decode cX10_does 182 = .ok (.aload_n 0, 1) := by decide +kernel
theorem dX10_does_183 : decode cX10_does 183 = .ok (.getfield 29, 3) := by decide +kernel
theorem dX10_does_186 : decode cX10_does 186 = .ok (.iconst 2, 1) := by decide +kernel
theorem dX10_does_187 : decode cX10_does 187 = .ok (.iaload, 1) := by decide +kernel
theorem dX10_does_188 : decode cX10_does 188 = .ok (.iconst 0, 1) := by decide +kernel
theorem dX10_does_189 : decode cX10_does 189 = .ok (.invokevirtual 105, 3) := by decide +kernel
theorem dX10_does_192 : decode cX10_does 192 = .ok (.ireturn, 1) := by decide +kernel
theorem dX10_does_193 : decode cX10_does 193 = .ok (.aload_n 0, 1) := by decide +kernel
theorem dX10_does_194 : decode cX10_does 194 = .ok (.aload_n 0, 1) := by decide +kernel
theorem dX10_does_195 : decode cX10_does 195 = .ok (.getfield 29, 3) := by decide +kernel
theorem dX10_does_198 : decode cX10_does 198 = .ok (.iconst 0, 1) := by decide +kernel
theorem dX10_does_199 : decode cX10_does 199 = .ok (.iaload, 1) := by decide +kernel
theorem dX10_does_200 : decode cX10_does 200 = .ok (.aload_n 0, 1) := by decide +kernel
theorem dX10_does_201 : decode cX10_does 201 = .ok (.getfield 29, 3) := by decide +kernel
theorem dX10_does_204 : decode cX10_does 204 = .ok (.iconst 1, 1) := by decide +kernel
theorem dX10_does_205 : decode cX10_does 205 = .ok (.iaload, 1) := by decide +kernel
theorem dX10_does_206 : decode cX10_does 206 = .ok (.invokevirtual 112, 3) := by decide +kernel
theorem dX10_does_209 : decode cX10_does 209 = .ok (.ireturn, 1) := by decide +kernel
theorem dX10_does_210 : decode cX10_does 210 = .ok (.aload_n 0, 1) := by decide +kernel
theorem dX10_does_211 : decode cX10_does 211 = .ok (.aload_n 0, 1) := by decide +kernel
theorem dX10_does_212 : decode cX10_does 212 = .ok (.getfield 29, 3) := by decide +kernel
theorem dX10_does_215 : decode cX10_does 215 = .ok (.iconst 0, 1) := by decide +kernel
theorem dX10_does_216 : decode cX10_does 216 = .ok (.iaload, 1) := by decide +kernel
theorem dX10_does_217 : decode cX10_does 217 = .ok (.aload_n 0, 1) := by decide +kernel
theorem dX10_does_218 : decode cX10_does 218 = .ok (.getfield 29, 3) := by decide +kernel
theorem dX10_does_221 : decode cX10_does 221 = .ok (.iconst 1, 1) := by decide +kernel
theorem dX10_does_222 : decode cX10_does 222 = .ok (.iaload, 1) := by decide +kernel
theorem dX10_does_223 : decode cX10_does 223 = .ok (.aload_n 0, 1) := by decide +kernel
theorem dX10_does_224 : decode cX10_does 224 = .ok (.getfield 29, 3) := by decide +kernel
theorem dX10_does_227 : decode cX10_does 227 = .ok (.iconst 2, 1) := by decide +kernel
theorem dX10_does_228 : decode cX10_does 228 = .ok (.iaload, 1) := by decide +kernel
theorem dX10_does_229 : decode cX10_does 229 = .ok (.invokevirtual 131, 3) := by decide +kernel
theorem dX10_does_232 : decode cX10_does 232 = .ok (.ireturn, 1) := by decide +kernel
theorem dX10_fails_0 : decode cX10_fails 0 = .ok (.iconst 0, 1) := by decide +kernel
theorem dX10_fails_1 : decode cX10_fails 1 = .ok (.istore 5, 2) := by decide +kernel
theorem dX10_fails_3 : decode cX10_fails 3 = .ok (.iload 5, 2) := by decide +kernel
theorem dX10_fails_5 : decode cX10_fails 5 = .ok (.sipush 284, 3) := by decide +kernel
theorem dX10_fails_8 : decode cX10_fails 8 = .ok (.if_icmp .ge 23, 3) := by decide +kernel
theorem dX10_fails_11 : decode cX10_fails 11 = .ok (.aload_n 0, 1) := by decide +kernel
theorem dX10_fails_12 : decode cX10_fails 12 = .ok (.getfield 7, 3) := by decide +kernel
theorem dX10_fails_15 : decode cX10_fails 15 = .ok (.iload 5, 2) := by decide +kernel
theorem dX10_fails_17 : decode cX10_fails 17 = .ok (.aload_n 0, 1) := by decide +kernel
theorem dX10_fails_18 : decode cX10_fails 18 = .ok (.getfield 16, 3) := by decide +kernel
theorem dX10_fails_21 : decode cX10_fails 21 = .ok (.iload 5, 2) := by decide +kernel
theorem dX10_fails_23 : decode cX10_fails 23 = .ok (.iaload, 1) := by decide +kernel
theorem dX10_fails_24 : decode cX10_fails 24 = .ok (.iastore, 1) := by decide +kernel
theorem dX10_fails_25 : decode cX10_fails 25 = .ok (.iinc 5 1, 3) := by decide +kernel
theorem dX10_fails_28 : decode cX10_fails 28 = .ok (.goto (-25), 3) := by decide +kernel
theorem dX10_fails_31 : decode cX10_fails 31 = .ok (.aload_n 0, 1) := by decide +kernel
theorem dX10_fails_32 : decode cX10_fails 32 = .ok (.iconst 1, 1) := by decide +kernel
theorem dX10_fails_33 : decode cX10_fails 33 = .ok (.putfield 153, 3) := by decide +kernel
theorem dX10_fails_36 : decode cX10_fails 36 = .ok (.aload_n 0, 1) := by decide +kernel
theorem dX10_fails_37 : decode cX10_fails 37 = .ok (.getfield 26, 3) := by decide +kernel
theorem dX10_fails_40 : decode cX10_fails 40 = .ok (.iconst 0, 1) := by decide +kernel
theorem dX10_fails_41 : decode cX10_fails 41 = .ok (.iload_n 1, 1) := by decide +kernel
theorem dX10_fails_42 : decode cX10_fails 42 = .ok (.iastore, 1) := by decide +kernel
theorem dX10_fails_43 : decode cX10_fails 43 = .ok (.aload_n 0, 1) := by decide +kernel
theorem dX10_fails_44 : decode cX10_fails 44 = .ok (.getfield 26, 3) := by decide +kernel
theorem dX10_fails_47 : decode cX10_fails 47 = .ok (.iconst 1, 1) := by decide +kernel
theorem dX10_fails_48 : decode cX10_fails 48 = .ok (.iload_n 2, 1) := by decide +kernel
theorem dX10_fails_49 : decode cX10_fails 49 = .ok (.iastore, 1) := by decide +kernel
theorem dX10_fails_50 : decode cX10_fails 50 = .ok (.aload_n 0, 1) := by decide +kernel
theorem dX10_fails_51 : decode cX10_fails 51 = .ok (.getfield 26, 3) := by decide +kernel
theorem dX10_fails_54 : decode cX10_fails 54 = .ok (.iconst 2, 1) := by decide +kernel
theorem dX10_fails_55 : decode cX10_fails 55 = .ok (.iload_n 1, 1) := by decide +kernel
theorem dX10_fails_56 : decode cX10_fails 56 = .ok (.iconst 1, 1) := by decide +kernel
theorem dX10_fails_57 : decode cX10_fails 57 = .ok (.if_icmp .ne 7, 3) := by decide +kernel
theorem dX10_fails_60 : decode cX10_fails 60 = .ok (.iconst 1, 1) := by decide +kernel
theorem dX10_fails_61 : decode cX10_fails 61 = .ok (.goto 4, 3) := by decide +kernel
theorem dX10_fails_64 : decode cX10_fails 64 = .ok (.iconst 2, 1) := by decide +kernel
theorem dX10_fails_65 : decode cX10_fails 65 = .ok (.iastore, 1) := by decide +kernel
theorem dX10_fails_66 : decode cX10_fails 66 = .ok (.aload_n 0, 1) := by decide +kernel
theorem dX10_fails_67 : decode cX10_fails 67 = .ok (.getfield 26, 3) := by decide +kernel
theorem dX10_fails_70 : decode cX10_fails 70 = .ok (.iconst 3, 1) := by decide +kernel
theorem dX10_fails_71 : decode cX10_fails 71 = .ok (.iload_n 3, 1) := by decide +kernel
theorem dX10_fails_72 : decode cX10_fails 72 = .ok (.iastore, 1) := by decide +kernel
theorem dX10_fails_73 : decode cX10_fails 73 = .ok (.aload_n 0, 1) := by decide +kernel
theorem dX10_fails_74 : decode cX10_fails 74 = .ok (.getfield 26, 3) := by decide +kernel
theorem dX10_fails_77 : decode cX10_fails 77 = .ok (.iconst 4, 1) := by decide +kernel
theorem dX10_fails_78 : decode cX10_fails 78 = .ok (.iload 4, 2) := by decide +kernel
theorem dX10_fails_80 : decode cX10_fails 80 = .ok (.iastore, 1) := by decide +kernel
theorem dX10_fails_81 : decode cX10_fails 81 = .ok (.sipush (-1000), 3) := by decide +kernel
theorem dX10_fails_84 : decode cX10_fails 84 = .ok (.iload_n 2, 1) := by decide +kernel
theorem dX10_fails_85 : decode cX10_fails 85 = .ok (.isub, 1) := by decide +kernel
theorem dX10_fails_86 : decode cX10_fails 86 = .ok (.ireturn, 1) := by decide +kernel
set_option maxRecDepth 20000 in
theorem ggX10_readsNumbers_X10_reads : GoodIn wsX10_readsNumbers wsX10_reads := goodIn_r _ [9, 10, 11, 3, 4, 2, 12, 13, 14, 8, 15, 16, 17, 18, 27, 28, 29, 30, 31, 32, 33, 34, 35, 36, 37, 38, 39, 40, 41] (by decide +kernel) (by decide +kernel)
set_option maxRecDepth 20000 in
theorem gX10_readsNumbers_X10_reads : GoodIn wsX10_readsNumbers (wsV RX10 157 RX10 yX10_reads wsX10_reads) := goodIn_app (goodIn_of _ (by decide +kernel)) ggX10_readsNumbers_X10_reads
set_option maxRecDepth 20000 in
theorem ggX10_readsNumbers_X10_isNumber : GoodIn wsX10_readsNumbers wsX10_isNumber := goodIn_r _ [22, 2, 10, 4, 3, 27, 28, 29, 30, 31, 32, 33, 34, 35, 36, 37, 38, 39, 40, 41] (by decide +kernel) (by decide +kernel)
set_option maxRecDepth 20000 in
theorem gX10_readsNumbers_X10_isNumber : GoodIn wsX10_readsNumbers (wsV RX10 160 RX10 yX10_isNumber wsX10_isNumber) := goodIn_app (goodIn_of _ (by decide +kernel)) ggX10_readsNumbers_X10_isNumber
set_option maxRecDepth 20000 in
theorem ggX10_readsNumbers_X10_value : GoodIn wsX10_readsNumbers wsX10_value := goodIn_r _ [26, 4, 10, 3, 27, 28, 29, 30, 31, 32, 33, 34, 35, 36, 37, 38, 39, 40, 41] (by decide +kernel) (by decide +kernel)
set_option maxRecDepth 20000 in
theorem gX10_readsNumbers_X10_value : GoodIn wsX10_readsNumbers (wsV RX10 164 RX10 yX10_value wsX10_value) := goodIn_app (goodIn_of _ (by decide +kernel)) ggX10_readsNumbers_X10_value
theorem dX10_readsNumbers_0 : decode cX10_readsNumbers 0 = .ok (.iconst 0, 1) := by decide +kernel
theorem dX10_readsNumbers_1 : decode cX10_readsNumbers 1 = .ok (.istore_n 2, 1) := by decide +kernel
theorem dX10_readsNumbers_2 : decode cX10_readsNumbers 2 = .ok (.iload_n 2, 1) := by decide +kernel
theorem dX10_readsNumbers_3 : decode cX10_readsNumbers 3 = .ok (.iload_n 1, 1) := by decide +kernel
theorem dX10_readsNumbers_4 : decode cX10_readsNumbers 4 = .ok (.if_icmp .ge 32, 3) := by decide +kernel
theorem dX10_readsNumbers_7 : decode cX10_readsNumbers 7 = .ok (.aload_n 0, 1) := by decide +kernel
theorem dX10_readsNumbers_8 : decode cX10_readsNumbers 8 = .ok (.invokevirtual 157, 3) := by decide +kernel
theorem dX10_readsNumbers_11 : decode cX10_readsNumbers 11 = .ok (.aload_n 0, 1) := by decide +kernel
theorem dX10_readsNumbers_12 : decode cX10_readsNumbers 12 = .ok (.invokevirtual 160, 3) := by decide +kernel
theorem dX10_readsNumbers_15 : decode cX10_readsNumbers 15 = .ok (.ifCond .ne 5, 3) := by decide +kernel
theorem dX10_readsNumbers_18 : decode cX10_readsNumbers 18 = .ok (.iconst 0, 1) := by decide +kernel
theorem dX10_readsNumbers_19 : decode cX10_readsNumbers 19 = .ok (.ireturn, 1) := by decide +kernel
theorem dX10_readsNumbers_20 : decode cX10_readsNumbers 20 = .ok (.aload_n 0, 1) := by decide +kernel
theorem dX10_readsNumbers_21 : decode cX10_readsNumbers 21 = .ok (.getfield 29, 3) := by decide +kernel
theorem dX10_readsNumbers_24 : decode cX10_readsNumbers 24 = .ok (.iload_n 2, 1) := by decide +kernel
theorem dX10_readsNumbers_25 : decode cX10_readsNumbers 25 = .ok (.aload_n 0, 1) := by decide +kernel
theorem dX10_readsNumbers_26 : decode cX10_readsNumbers 26 = .ok (.invokevirtual 164, 3) := by decide +kernel
theorem dX10_readsNumbers_29 : decode cX10_readsNumbers 29 = .ok (.iastore, 1) := by decide +kernel
theorem dX10_readsNumbers_30 : decode cX10_readsNumbers 30 = .ok (.iinc 2 1, 3) := by decide +kernel
theorem dX10_readsNumbers_33 : decode cX10_readsNumbers 33 = .ok (.goto (-31), 3) := by decide +kernel
theorem dX10_readsNumbers_36 : decode cX10_readsNumbers 36 = .ok (.aload_n 0, 1) := by decide +kernel
theorem dX10_readsNumbers_37 : decode cX10_readsNumbers 37 = .ok (.invokevirtual 157, 3) := by decide +kernel
theorem dX10_readsNumbers_40 : decode cX10_readsNumbers 40 = .ok (.aload_n 0, 1) := by decide +kernel
theorem dX10_readsNumbers_41 : decode cX10_readsNumbers 41 = .ok (.getfield 150, 3) := by decide +kernel
theorem dX10_readsNumbers_44 : decode cX10_readsNumbers 44 = .ok (.iconst 3, 1) := by decide +kernel
theorem dX10_readsNumbers_45 : decode cX10_readsNumbers 45 = .ok (.if_icmp .ne 21, 3) := by decide +kernel
theorem dX10_readsNumbers_48 : decode cX10_readsNumbers 48 = .ok (.aload_n 0, 1) := by decide +kernel
theorem dX10_readsNumbers_49 : decode cX10_readsNumbers 49 = .ok (.getfield 22, 3) := by decide +kernel
theorem dX10_readsNumbers_52 : decode cX10_readsNumbers 52 = .ok (.aload_n 0, 1) := by decide +kernel
theorem dX10_readsNumbers_53 : decode cX10_readsNumbers 53 = .ok (.getfield 144, 3) := by decide +kernel
theorem dX10_readsNumbers_56 : decode cX10_readsNumbers 56 = .ok (.caload, 1) := by decide +kernel
theorem dX10_readsNumbers_57 : decode cX10_readsNumbers 57 = .ok (.bipush 59, 2) := by decide +kernel
theorem dX10_readsNumbers_59 : decode cX10_readsNumbers 59 = .ok (.if_icmp .ne 7, 3) := by decide +kernel
theorem dX10_readsNumbers_62 : decode cX10_readsNumbers 62 = .ok (.iconst 1, 1) := by decide +kernel
theorem dX10_readsNumbers_63 : decode cX10_readsNumbers 63 = .ok (.goto 4, 3) := by decide +kernel
theorem dX10_readsNumbers_66 : decode cX10_readsNumbers 66 = .ok (.iconst 0, 1) := by decide +kernel
theorem dX10_readsNumbers_67 : decode cX10_readsNumbers 67 = .ok (.ireturn, 1) := by decide +kernel
set_option maxRecDepth 20000 in
theorem ggX10_run_X10_reads : GoodIn wsX10_run wsX10_reads := goodIn_r _ [13, 3, 8, 14, 5, 4, 15, 16, 17, 12, 18, 19, 20, 21, 145, 146, 147, 148, 149, 150, 151, 152, 153, 154, 155, 156, 157, 158, 159] (by decide +kernel) (by decide +kernel)
set_option maxRecDepth 20000 in
theorem gX10_run_X10_reads : GoodIn wsX10_run (wsV RX10 157 RX10 yX10_reads wsX10_reads) := goodIn_app (goodIn_of _ (by decide +kernel)) ggX10_run_X10_reads
set_option maxRecDepth 20000 in
theorem ggX10_run_X10_word : GoodIn wsX10_run wsX10_word := goodIn_r _ [25, 5, 3, 14, 145, 146, 147, 148, 149, 150, 151, 152, 153, 154, 155, 156, 157, 158, 159] (by decide +kernel) (by decide +kernel)
set_option maxRecDepth 20000 in
theorem gX10_run_X10_word : GoodIn wsX10_run (wsV RX10 167 RX10 yX10_word wsX10_word) := goodIn_app (goodIn_of _ (by decide +kernel)) ggX10_run_X10_word
set_option maxRecDepth 20000 in
theorem ggX10_run_X10_numbers : GoodIn wsX10_run wsX10_numbers := goodIn_r _ [28] (by decide +kernel) (by decide +kernel)
set_option maxRecDepth 20000 in
theorem gX10_run_X10_numbers : GoodIn wsX10_run (va_wsS RX10 170 yX10_numbers wsX10_numbers) := goodIn_app (goodIn_of _ (by decide +kernel)) ggX10_run_X10_numbers
set_option maxRecDepth 20000 in
theorem ggX10_run_X10_readsNumbers : GoodIn wsX10_run wsX10_readsNumbers := goodIn_r _ [32, 33, 4, 14, 5, 9, 10, 11, 12, 13, 3, 8, 15, 16, 17, 18, 19, 20, 21, 34, 35, 36, 37, 38, 39, 40, 41, 145, 146, 147, 148, 149, 150, 151, 152, 153, 154, 155, 156, 157, 158, 159] (by decide +kernel) (by decide +kernel)
set_option maxRecDepth 20000 in
theorem gX10_run_X10_readsNumbers : GoodIn wsX10_run (wsV RX10 173 RX10 yX10_readsNumbers wsX10_readsNumbers) := goodIn_app (goodIn_of _ (by decide +kernel)) ggX10_run_X10_readsNumbers
set_option maxRecDepth 20000 in
theorem ggX10_run_X10_fails : GoodIn wsX10_run wsX10_fails := goodIn_r _ [45, 2, 1, 46, 47, 145, 146, 147, 148, 149, 150, 151, 152, 153, 154, 155, 156, 157, 158, 159] (by decide +kernel) (by decide +kernel)
set_option maxRecDepth 20000 in
theorem gX10_run_X10_fails : GoodIn wsX10_run (wsV RX10 176 RX10 yX10_fails wsX10_fails) := goodIn_app (goodIn_of _ (by decide +kernel)) ggX10_run_X10_fails
set_option maxRecDepth 20000 in
theorem ggX10_run_X10_does : GoodIn wsX10_run wsX10_does := goodIn_r _ [51, 33, 52, 53, 54, 12, 55, 7, 2, 56, 57, 58, 19, 20, 21, 59, 60, 61, 62, 63, 64, 65, 66, 67, 68, 69, 70, 71, 72, 73, 74, 75, 76, 77, 78, 79, 80, 81, 82, 83, 84, 85, 86, 87, 88, 89, 90, 91, 92, 93, 94, 95, 6, 96, 97, 98, 99, 100, 101, 102, 103, 104, 105, 106, 107, 108, 109, 110, 111, 112, 113, 114, 115, 116, 117, 118, 119, 120, 121, 122, 123, 124, 125, 126, 127, 128, 129, 130, 131, 132, 133, 134, 135, 136, 137, 138, 145, 146, 147, 148, 149, 150, 151, 152, 153, 154, 155, 156, 157, 158, 159] (by decide +kernel) (by decide +kernel)
set_option maxRecDepth 20000 in
theorem gX10_run_X10_does : GoodIn wsX10_run (wsV RX10 179 RX10 yX10_does wsX10_does) := goodIn_app (goodIn_of _ (by decide +kernel)) ggX10_run_X10_does
set_option maxRecDepth 20000 in
theorem ggX10_run_X10_pushes : GoodIn wsX10_run wsX10_pushes := goodIn_r _ [142, 143, 144, 145, 146, 147, 148, 149, 150, 151, 152, 153, 154, 155, 156, 157, 158, 159] (by decide +kernel) (by decide +kernel)
set_option maxRecDepth 20000 in
theorem gX10_run_X10_pushes : GoodIn wsX10_run (wsV RX10 41 RX10 yX10_pushes wsX10_pushes) := goodIn_app (goodIn_of _ (by decide +kernel)) ggX10_run_X10_pushes
theorem dX10_run_0 : decode cX10_run 0 = .ok (.iconst 0, 1) := by decide +kernel
theorem dX10_run_1 : decode cX10_run 1 = .ok (.istore_n 1, 1) := by decide +kernel
theorem dX10_run_2 : decode cX10_run 2 = .ok (.iload_n 1, 1) := by decide +kernel
theorem dX10_run_3 : decode cX10_run 3 = .ok (.sipush 284, 3) := by decide +kernel
theorem dX10_run_6 : decode cX10_run 6 = .ok (.if_icmp .ge 21, 3) := by decide +kernel
theorem dX10_run_9 : decode cX10_run 9 = .ok (.aload_n 0, 1) := by decide +kernel
theorem dX10_run_10 : decode cX10_run 10 = .ok (.getfield 16, 3) := by decide +kernel
theorem dX10_run_13 : decode cX10_run 13 = .ok (.iload_n 1, 1) := by decide +kernel
theorem dX10_run_14 : decode cX10_run 14 = .ok (.aload_n 0, 1) := by decide +kernel
theorem dX10_run_15 : decode cX10_run 15 = .ok (.getfield 7, 3) := by decide +kernel
theorem dX10_run_18 : decode cX10_run 18 = .ok (.iload_n 1, 1) := by decide +kernel
theorem dX10_run_19 : decode cX10_run 19 = .ok (.iaload, 1) := by decide +kernel
theorem dX10_run_20 : decode cX10_run 20 = .ok (.iastore, 1) := by decide +kernel
theorem dX10_run_21 : decode cX10_run 21 = .ok (.iinc 1 1, 3) := by decide +kernel
theorem dX10_run_24 : decode cX10_run 24 = .ok (.goto (-22), 3) := by decide +kernel
theorem dX10_run_27 : decode cX10_run 27 = .ok (.iconst 0, 1) := by decide +kernel
theorem dX10_run_28 : decode cX10_run 28 = .ok (.istore_n 1, 1) := by decide +kernel
theorem dX10_run_29 : decode cX10_run 29 = .ok (.aload_n 0, 1) := by decide +kernel
theorem dX10_run_30 : decode cX10_run 30 = .ok (.iconst 0, 1) := by decide +kernel
theorem dX10_run_31 : decode cX10_run 31 = .ok (.putfield 141, 3) := by decide +kernel
theorem dX10_run_34 : decode cX10_run 34 = .ok (.aload_n 0, 1) := by decide +kernel
theorem dX10_run_35 : decode cX10_run 35 = .ok (.invokevirtual 157, 3) := by decide +kernel
theorem dX10_run_38 : decode cX10_run 38 = .ok (.aload_n 0, 1) := by decide +kernel
theorem dX10_run_39 : decode cX10_run 39 = .ok (.getfield 150, 3) := by decide +kernel
theorem dX10_run_42 : decode cX10_run 42 = .ok (.ifCond .eq 101, 3) := by decide +kernel
theorem dX10_run_45 : decode cX10_run 45 = .ok (.aload_n 0, 1) := by decide +kernel
theorem dX10_run_46 : decode cX10_run 46 = .ok (.getfield 144, 3) := by decide +kernel
theorem dX10_run_49 : decode cX10_run 49 = .ok (.istore_n 2, 1) := by decide +kernel
theorem dX10_run_50 : decode cX10_run 50 = .ok (.aload_n 0, 1) := by decide +kernel
theorem dX10_run_51 : decode cX10_run 51 = .ok (.getfield 150, 3) := by decide +kernel
theorem dX10_run_54 : decode cX10_run 54 = .ok (.iconst 1, 1) := by decide +kernel
theorem dX10_run_55 : decode cX10_run 55 = .ok (.if_icmp .ne 10, 3) := by decide +kernel
theorem dX10_run_58 : decode cX10_run 58 = .ok (.aload_n 0, 1) := by decide +kernel
theorem dX10_run_59 : decode cX10_run 59 = .ok (.invokevirtual 167, 3) := by decide +kernel
theorem dX10_run_62 : decode cX10_run 62 = .ok (.goto 4, 3) := by decide +kernel
theorem dX10_run_65 : decode cX10_run 65 = .ok (.iconst 0, 1) := by decide +kernel
theorem dX10_run_66 : decode cX10_run 66 = .ok (.istore_n 3, 1) := by decide +kernel
theorem dX10_run_67 : decode cX10_run 67 = .ok (.iload_n 3, 1) := by decide +kernel
theorem dX10_run_68 : decode cX10_run 68 = .ok (.invokestatic 170, 3) := by decide +kernel
theorem dX10_run_71 : decode cX10_run 71 = .ok (.ifCond .lt 14, 3) := by decide +kernel
theorem dX10_run_74 : decode cX10_run 74 = .ok (.aload_n 0, 1) := by decide +kernel
theorem dX10_run_75 : decode cX10_run 75 = .ok (.iload_n 3, 1) := by decide +kernel
theorem dX10_run_76 : decode cX10_run 76 = .ok (.invokestatic 170, 3) := by decide +kernel
theorem dX10_run_79 : decode cX10_run 79 = .ok (.invokevirtual 173, 3) := by decide +kernel
theorem dX10_run_82 : decode cX10_run 82 = .ok (.ifCond .ne 16, 3) := by decide +kernel
theorem dX10_run_85 : decode cX10_run 85 = .ok (.aload_n 0, 1) := by decide +kernel
theorem dX10_run_86 : decode cX10_run 86 = .ok (.iconst 1, 1) := by decide +kernel
theorem dX10_run_87 : decode cX10_run 87 = .ok (.aload_n 0, 1) := by decide +kernel
theorem dX10_run_88 : decode cX10_run 88 = .ok (.getfield 144, 3) := by decide +kernel
theorem dX10_run_91 : decode cX10_run 91 = .ok (.ldc 67, 2) := by decide +kernel
theorem dX10_run_93 : decode cX10_run 93 = .ok (.iload_n 1, 1) := by decide +kernel
theorem dX10_run_94 : decode cX10_run 94 = .ok (.invokevirtual 176, 3) := by decide +kernel
theorem dX10_run_97 : decode cX10_run 97 = .ok (.ireturn, 1) := by decide +kernel
theorem dX10_run_98 : decode cX10_run 98 = .ok (.aload_n 0, 1) := by decide +kernel
theorem dX10_run_99 : decode cX10_run 99 = .ok (.iload_n 3, 1) := by decide +kernel
theorem dX10_run_100 : decode cX10_run 100 = .ok (.invokevirtual 179, 3) := by decide +kernel
theorem dX10_run_103 : decode cX10_run 103 = .ok (.istore 4, 2) := by decide +kernel
theorem dX10_run_105 : decode cX10_run 105 = .ok (.iload 4, 2) := by decide +kernel
theorem dX10_run_107 : decode cX10_run 107 = .ok (.ldc 40, 2) := by decide +kernel
theorem dX10_run_109 : decode cX10_run 109 = .ok (.if_icmp .gt 24, 3) := by decide +kernel
theorem dX10_run_112 : decode cX10_run 112 = .ok (.aload_n 0, 1) := by decide +kernel
theorem dX10_run_113 : decode cX10_run 113 = .ok (.iload 4, 2) := by decide +kernel
theorem dX10_run_115 : decode cX10_run 115 = .ok (.ldc 40, 2) := by decide +kernel
theorem dX10_run_117 : decode cX10_run 117 = .ok (.if_icmp .ne 7, 3) := by decide +kernel
theorem dX10_run_120 : decode cX10_run 120 = .ok (.iconst 2, 1) := by decide +kernel
theorem dX10_run_121 : decode cX10_run 121 = .ok (.goto 4, 3) := by decide +kernel
theorem dX10_run_124 : decode cX10_run 124 = .ok (.iconst 3, 1) := by decide +kernel
theorem dX10_run_125 : decode cX10_run 125 = .ok (.iload_n 2, 1) := by decide +kernel
theorem dX10_run_126 : decode cX10_run 126 = .ok (.iload 4, 2) := by decide +kernel
theorem dX10_run_128 : decode cX10_run 128 = .ok (.iload_n 1, 1) := by decide +kernel
theorem dX10_run_129 : decode cX10_run 129 = .ok (.invokevirtual 176, 3) := by decide +kernel
theorem dX10_run_132 : decode cX10_run 132 = .ok (.ireturn, 1) := by decide +kernel
theorem dX10_run_133 : decode cX10_run 133 = .ok (.iinc 1 1, 3) := by decide +kernel
theorem dX10_run_136 : decode cX10_run 136 = .ok (.aload_n 0, 1) := by decide +kernel
theorem dX10_run_137 : decode cX10_run 137 = .ok (.invokevirtual 157, 3) := by decide +kernel
theorem dX10_run_140 : decode cX10_run 140 = .ok (.goto (-102), 3) := by decide +kernel
theorem dX10_run_143 : decode cX10_run 143 = .ok (.aload_n 0, 1) := by decide +kernel
theorem dX10_run_144 : decode cX10_run 144 = .ok (.aload_n 0, 1) := by decide +kernel
theorem dX10_run_145 : decode cX10_run 145 = .ok (.getfield 16, 3) := by decide +kernel
theorem dX10_run_148 : decode cX10_run 148 = .ok (.invokevirtual 41, 3) := by decide +kernel
theorem dX10_run_151 : decode cX10_run 151 = .ok (.aload_n 0, 1) := by decide +kernel
theorem dX10_run_152 : decode cX10_run 152 = .ok (.iconst 0, 1) := by decide +kernel
theorem dX10_run_153 : decode cX10_run 153 = .ok (.putfield 138, 3) := by decide +kernel
theorem dX10_run_156 : decode cX10_run 156 = .ok (.iload_n 1, 1) := by decide +kernel
theorem dX10_run_157 : decode cX10_run 157 = .ok (.ireturn, 1) := by decide +kernel
set_option maxRecDepth 20000 in
theorem ggX10_failure_X10_in : GoodIn wsX10_failure wsX10_in := goodIn_r _ [8] (by decide +kernel) (by decide +kernel)
set_option maxRecDepth 20000 in
theorem gX10_failure_X10_in : GoodIn wsX10_failure (va_wsS RX10 32 yX10_in wsX10_in) := goodIn_app (goodIn_of _ (by decide +kernel)) ggX10_failure_X10_in
theorem dX10_failure_0 : decode cX10_failure 0 = .ok (.iload_n 1, 1) := by decide +kernel
theorem dX10_failure_1 : decode cX10_failure 1 = .ok (.iconst 0, 1) := by decide +kernel
theorem dX10_failure_2 : decode cX10_failure 2 = .ok (.iconst 4, 1) := by decide +kernel
theorem dX10_failure_3 : decode cX10_failure 3 = .ok (.invokestatic 32, 3) := by decide +kernel
theorem dX10_failure_6 : decode cX10_failure 6 = .ok (.ifCond .ne 6, 3) := by decide +kernel
theorem dX10_failure_9 : decode cX10_failure 9 = .ok (.ldc 40, 2) := by decide +kernel
theorem dX10_failure_11 : decode cX10_failure 11 = .ok (.ireturn, 1) := by decide +kernel
theorem dX10_failure_12 : decode cX10_failure 12 = .ok (.aload_n 0, 1) := by decide +kernel
theorem dX10_failure_13 : decode cX10_failure 13 = .ok (.getfield 153, 3) := by decide +kernel
theorem dX10_failure_16 : decode cX10_failure 16 = .ok (.ifCond .eq 12, 3) := by decide +kernel
theorem dX10_failure_19 : decode cX10_failure 19 = .ok (.aload_n 0, 1) := by decide +kernel
theorem dX10_failure_20 : decode cX10_failure 20 = .ok (.getfield 26, 3) := by decide +kernel
theorem dX10_failure_23 : decode cX10_failure 23 = .ok (.iload_n 1, 1) := by decide +kernel
theorem dX10_failure_24 : decode cX10_failure 24 = .ok (.iaload, 1) := by decide +kernel
theorem dX10_failure_25 : decode cX10_failure 25 = .ok (.goto 5, 3) := by decide +kernel
theorem dX10_failure_28 : decode cX10_failure 28 = .ok (.ldc 67, 2) := by decide +kernel
theorem dX10_failure_30 : decode cX10_failure 30 = .ok (.ireturn, 1) := by decide +kernel
set_option maxRecDepth 20000 in
theorem ggX10_kept_X10_of : GoodIn wsX10_kept wsX10_of := goodIn_r _ [6, 1, 7, 8, 9, 10, 11, 12, 13, 14, 15, 16, 17, 18, 19, 20, 21] (by decide +kernel) (by decide +kernel)
set_option maxRecDepth 20000 in
theorem gX10_kept_X10_of : GoodIn wsX10_kept (wsV RX10 96 RX10 yX10_of wsX10_of) := goodIn_app (goodIn_of _ (by decide +kernel)) ggX10_kept_X10_of
theorem dX10_kept_0 : decode cX10_kept 0 = .ok (.iconst 0, 1) := by decide +kernel
theorem dX10_kept_1 : decode cX10_kept 1 = .ok (.istore_n 1, 1) := by decide +kernel
theorem dX10_kept_2 : decode cX10_kept 2 = .ok (.iconst 0, 1) := by decide +kernel
theorem dX10_kept_3 : decode cX10_kept 3 = .ok (.istore_n 2, 1) := by decide +kernel
theorem dX10_kept_4 : decode cX10_kept 4 = .ok (.iload_n 2, 1) := by decide +kernel
theorem dX10_kept_5 : decode cX10_kept 5 = .ok (.aload_n 0, 1) := by decide +kernel
theorem dX10_kept_6 : decode cX10_kept 6 = .ok (.getfield 7, 3) := by decide +kernel
theorem dX10_kept_9 : decode cX10_kept 9 = .ok (.bipush 14, 2) := by decide +kernel
theorem dX10_kept_11 : decode cX10_kept 11 = .ok (.iaload, 1) := by decide +kernel
theorem dX10_kept_12 : decode cX10_kept 12 = .ok (.if_icmp .ge 18, 3) := by decide +kernel
theorem dX10_kept_15 : decode cX10_kept 15 = .ok (.iload_n 1, 1) := by decide +kernel
theorem dX10_kept_16 : decode cX10_kept 16 = .ok (.aload_n 0, 1) := by decide +kernel
theorem dX10_kept_17 : decode cX10_kept 17 = .ok (.iload_n 2, 1) := by decide +kernel
theorem dX10_kept_18 : decode cX10_kept 18 = .ok (.iconst 1, 1) := by decide +kernel
theorem dX10_kept_19 : decode cX10_kept 19 = .ok (.invokevirtual 96, 3) := by decide +kernel
theorem dX10_kept_22 : decode cX10_kept 22 = .ok (.iadd, 1) := by decide +kernel
theorem dX10_kept_23 : decode cX10_kept 23 = .ok (.istore_n 1, 1) := by decide +kernel
theorem dX10_kept_24 : decode cX10_kept 24 = .ok (.iinc 2 1, 3) := by decide +kernel
theorem dX10_kept_27 : decode cX10_kept 27 = .ok (.goto (-23), 3) := by decide +kernel
theorem dX10_kept_30 : decode cX10_kept 30 = .ok (.iload_n 1, 1) := by decide +kernel
theorem dX10_kept_31 : decode cX10_kept 31 = .ok (.ireturn, 1) := by decide +kernel
set_option maxRecDepth 20000 in
theorem ggX10_stocks_X10_priced : GoodIn wsX10_stocks wsX10_priced := goodIn_r _ [6, 1, 7, 8, 9, 10, 11, 12, 13, 14, 15, 16, 17, 18, 19, 20, 21] (by decide +kernel) (by decide +kernel)
set_option maxRecDepth 20000 in
theorem gX10_stocks_X10_priced : GoodIn wsX10_stocks (wsV RX10 123 RX10 yX10_priced wsX10_priced) := goodIn_app (goodIn_of _ (by decide +kernel)) ggX10_stocks_X10_priced
theorem dX10_stocks_0 : decode cX10_stocks 0 = .ok (.iconst 0, 1) := by decide +kernel
theorem dX10_stocks_1 : decode cX10_stocks 1 = .ok (.istore_n 1, 1) := by decide +kernel
theorem dX10_stocks_2 : decode cX10_stocks 2 = .ok (.iconst 0, 1) := by decide +kernel
theorem dX10_stocks_3 : decode cX10_stocks 3 = .ok (.istore_n 2, 1) := by decide +kernel
theorem dX10_stocks_4 : decode cX10_stocks 4 = .ok (.iload_n 2, 1) := by decide +kernel
theorem dX10_stocks_5 : decode cX10_stocks 5 = .ok (.aload_n 0, 1) := by decide +kernel
theorem dX10_stocks_6 : decode cX10_stocks 6 = .ok (.getfield 7, 3) := by decide +kernel
theorem dX10_stocks_9 : decode cX10_stocks 9 = .ok (.bipush 15, 2) := by decide +kernel
theorem dX10_stocks_11 : decode cX10_stocks 11 = .ok (.iaload, 1) := by decide +kernel
theorem dX10_stocks_12 : decode cX10_stocks 12 = .ok (.if_icmp .ge 18, 3) := by decide +kernel
theorem dX10_stocks_15 : decode cX10_stocks 15 = .ok (.iload_n 1, 1) := by decide +kernel
theorem dX10_stocks_16 : decode cX10_stocks 16 = .ok (.aload_n 0, 1) := by decide +kernel
theorem dX10_stocks_17 : decode cX10_stocks 17 = .ok (.iload_n 2, 1) := by decide +kernel
theorem dX10_stocks_18 : decode cX10_stocks 18 = .ok (.iconst 2, 1) := by decide +kernel
theorem dX10_stocks_19 : decode cX10_stocks 19 = .ok (.invokevirtual 123, 3) := by decide +kernel
theorem dX10_stocks_22 : decode cX10_stocks 22 = .ok (.iadd, 1) := by decide +kernel
theorem dX10_stocks_23 : decode cX10_stocks 23 = .ok (.istore_n 1, 1) := by decide +kernel
theorem dX10_stocks_24 : decode cX10_stocks 24 = .ok (.iinc 2 1, 3) := by decide +kernel
theorem dX10_stocks_27 : decode cX10_stocks 27 = .ok (.goto (-23), 3) := by decide +kernel
theorem dX10_stocks_30 : decode cX10_stocks 30 = .ok (.iload_n 1, 1) := by decide +kernel
theorem dX10_stocks_31 : decode cX10_stocks 31 = .ok (.ireturn, 1) := by decide +kernel
set_option maxRecDepth 20000 in
theorem ggX10_count_X10_kept : GoodIn wsX10_count wsX10_kept := goodIn_r _ [9, 1, 10, 11, 12, 8, 13, 26, 27, 28, 29, 30, 31, 32, 33, 34, 35, 36, 37, 38, 39, 40] (by decide +kernel) (by decide +kernel)
set_option maxRecDepth 20000 in
theorem gX10_count_X10_kept : GoodIn wsX10_count (wsV RX10 182 RX10 yX10_kept wsX10_kept) := goodIn_app (goodIn_of _ (by decide +kernel)) ggX10_count_X10_kept
set_option maxRecDepth 20000 in
theorem ggX10_count_X10_pointsOfAll : GoodIn wsX10_count wsX10_pointsOfAll := goodIn_r _ [17, 1, 10, 11, 12, 8, 13, 26, 27, 28, 29, 30, 31, 32, 33, 34, 35, 36, 37, 38, 39, 40] (by decide +kernel) (by decide +kernel)
set_option maxRecDepth 20000 in
theorem gX10_count_X10_pointsOfAll : GoodIn wsX10_count (wsV RX10 134 RX10 yX10_pointsOfAll wsX10_pointsOfAll) := goodIn_app (goodIn_of _ (by decide +kernel)) ggX10_count_X10_pointsOfAll
set_option maxRecDepth 20000 in
theorem ggX10_count_X10_stocks : GoodIn wsX10_count wsX10_stocks := goodIn_r _ [21, 1, 22, 23, 24, 8, 25, 26, 27, 28, 29, 30, 31, 32, 33, 34, 35, 36, 37, 38, 39, 40] (by decide +kernel) (by decide +kernel)
set_option maxRecDepth 20000 in
theorem gX10_count_X10_stocks : GoodIn wsX10_count (wsV RX10 185 RX10 yX10_stocks wsX10_stocks) := goodIn_app (goodIn_of _ (by decide +kernel)) ggX10_count_X10_stocks
theorem dX10_count_0 : decode cX10_count 0 = .ok (.iload_n 1, 1) := by decide +kernel
theorem dX10_count_1 : decode cX10_count 1 = .ok (.tableswitch 147 0 13 #[71, 71, 71, 71, 71, 81, 89, 97, 102, 110, 115, 120, 137, 142], 71) := by decide +kernel
theorem dX10_count_72 : decode cX10_count 72 = .ok (.aload_n 0, 1) := by decide +kernel
theorem dX10_count_73 : decode cX10_count 73 = .ok (.getfield 7, 3) := by decide +kernel
theorem dX10_count_76 : decode cX10_count 76 = .ok (.bipush 8, 2) := by decide +kernel
theorem dX10_count_78 : decode cX10_count 78 = .ok (.iload_n 1, 1) := by decide +kernel
theorem dX10_count_79 : decode cX10_count 79 = .ok (.iadd, 1) := by decide +kernel
theorem dX10_count_80 : decode cX10_count 80 = .ok (.iaload, 1) := by decide +kernel
theorem dX10_count_81 : decode cX10_count 81 = .ok (.ireturn, 1) := by decide +kernel
theorem dX10_count_82 : decode cX10_count 82 = .ok (.aload_n 0, 1) := by decide +kernel
theorem dX10_count_83 : decode cX10_count 83 = .ok (.getfield 7, 3) := by decide +kernel
theorem dX10_count_86 : decode cX10_count 86 = .ok (.bipush 14, 2) := by decide +kernel
theorem dX10_count_88 : decode cX10_count 88 = .ok (.iaload, 1) := by decide +kernel
theorem dX10_count_89 : decode cX10_count 89 = .ok (.ireturn, 1) := by decide +kernel
theorem dX10_count_90 : decode cX10_count 90 = .ok (.aload_n 0, 1) := by decide +kernel
theorem dX10_count_91 : decode cX10_count 91 = .ok (.getfield 7, 3) := by decide +kernel
theorem dX10_count_94 : decode cX10_count 94 = .ok (.bipush 15, 2) := by decide +kernel
theorem dX10_count_96 : decode cX10_count 96 = .ok (.iaload, 1) := by decide +kernel
theorem dX10_count_97 : decode cX10_count 97 = .ok (.ireturn, 1) := by decide +kernel
theorem dX10_count_98 : decode cX10_count 98 = .ok (.aload_n 0, 1) := by decide +kernel
theorem dX10_count_99 : decode cX10_count 99 = .ok (.invokevirtual 182, 3) := by decide +kernel
theorem dX10_count_102 : decode cX10_count 102 = .ok (.ireturn, 1) := by decide +kernel
theorem dX10_count_103 : decode cX10_count 103 = .ok (.aload_n 0, 1) := by decide +kernel
theorem dX10_count_104 : decode cX10_count 104 = .ok (.getfield 7, 3) := by decide +kernel
theorem dX10_count_107 : decode cX10_count 107 = .ok (.bipush 13, 2) := by decide +kernel
theorem dX10_count_109 : decode cX10_count 109 = .ok (.iaload, 1) := by decide +kernel
theorem dX10_count_110 : decode cX10_count 110 = .ok (.ireturn, 1) := by decide +kernel
theorem dX10_count_111 : decode cX10_count 111 = .ok (.aload_n 0, 1) := by decide +kernel
theorem dX10_count_112 : decode cX10_count 112 = .ok (.invokevirtual 134, 3) := by decide +kernel
theorem dX10_count_115 : decode cX10_count 115 = .ok (.ireturn, 1) := by decide +kernel
theorem dX10_count_116 : decode cX10_count 116 = .ok (.aload_n 0, 1) := by decide +kernel
theorem dX10_count_117 : decode cX10_count 117 = .ok (.invokevirtual 185, 3) := by decide +kernel
theorem dX10_count_120 : decode cX10_count 120 = .ok (.ireturn, 1) := by decide +kernel
theorem dX10_count_121 : decode cX10_count 121 = .ok (.aload_n 0, 1) := by decide +kernel
theorem dX10_count_122 : decode cX10_count 122 = .ok (.getfield 7, 3) := by decide +kernel
theorem dX10_count_125 : decode cX10_count 125 = .ok (.bipush 94, 2) := by decide +kernel
theorem dX10_count_127 : decode cX10_count 127 = .ok (.iaload, 1) := by decide +kernel
theorem dX10_count_128 : decode cX10_count 128 = .ok (.aload_n 0, 1) := by decide +kernel
theorem dX10_count_129 : decode cX10_count 129 = .ok (.getfield 7, 3) := by decide +kernel
theorem dX10_count_132 : decode cX10_count 132 = .ok (.sipush 189, 3) := by decide +kernel
theorem dX10_count_135 : decode cX10_count 135 = .ok (.iaload, 1) := by decide +kernel
theorem dX10_count_136 : decode cX10_count 136 = .ok (.iadd, 1) := by decide +kernel
theorem dX10_count_137 : decode cX10_count 137 = .ok (.ireturn, 1) := by decide +kernel
theorem dX10_count_138 : decode cX10_count 138 = .ok (.aload_n 0, 1) := by decide +kernel
theorem dX10_count_139 : decode cX10_count 139 = .ok (.getfield 36, 3) := by decide +kernel
theorem dX10_count_142 : decode cX10_count 142 = .ok (.ireturn, 1) := by decide +kernel
theorem dX10_count_143 : decode cX10_count 143 = .ok (.aload_n 0, 1) := by decide +kernel
theorem dX10_count_144 : decode cX10_count 144 = .ok (.getfield 138, 3) := by decide +kernel
theorem dX10_count_147 : decode cX10_count 147 = .ok (.ireturn, 1) := by decide +kernel
theorem dX10_count_148 : decode cX10_count 148 = .ok (.ldc 40, 2) := by decide +kernel
theorem dX10_count_150 : decode cX10_count 150 = .ok (.ireturn, 1) := by decide +kernel
set_option maxRecDepth 20000 in
theorem ggX10_kind_X10_isKind : GoodIn wsX10_kind wsX10_isKind := goodIn_r _ [6, 7, 8, 5, 9] (by decide +kernel) (by decide +kernel)
set_option maxRecDepth 20000 in
theorem gX10_kind_X10_isKind : GoodIn wsX10_kind (va_wsS RX10 68 yX10_isKind wsX10_isKind) := goodIn_app (goodIn_of _ (by decide +kernel)) ggX10_kind_X10_isKind
set_option maxRecDepth 20000 in
theorem ggX10_kind_X10_in : GoodIn wsX10_kind wsX10_in := goodIn_r _ [9] (by decide +kernel) (by decide +kernel)
set_option maxRecDepth 20000 in
theorem gX10_kind_X10_in : GoodIn wsX10_kind (va_wsS RX10 32 yX10_in wsX10_in) := goodIn_app (goodIn_of _ (by decide +kernel)) ggX10_kind_X10_in
theorem dX10_kind_0 : decode cX10_kind 0 = .ok (.iload_n 1, 1) := by decide +kernel
theorem dX10_kind_1 : decode cX10_kind 1 = .ok (.invokestatic 68, 3) := by decide +kernel
theorem dX10_kind_4 : decode cX10_kind 4 = .ok (.ifCond .eq 25, 3) := by decide +kernel
theorem dX10_kind_7 : decode cX10_kind 7 = .ok (.iload_n 2, 1) := by decide +kernel
theorem dX10_kind_8 : decode cX10_kind 8 = .ok (.iconst 0, 1) := by decide +kernel
theorem dX10_kind_9 : decode cX10_kind 9 = .ok (.iconst 1, 1) := by decide +kernel
theorem dX10_kind_10 : decode cX10_kind 10 = .ok (.invokestatic 32, 3) := by decide +kernel
theorem dX10_kind_13 : decode cX10_kind 13 = .ok (.ifCond .eq 16, 3) := by decide +kernel
theorem dX10_kind_16 : decode cX10_kind 16 = .ok (.aload_n 0, 1) := by decide +kernel
theorem dX10_kind_17 : decode cX10_kind 17 = .ok (.getfield 7, 3) := by decide +kernel
theorem dX10_kind_20 : decode cX10_kind 20 = .ok (.iconst 4, 1) := by decide +kernel
theorem dX10_kind_21 : decode cX10_kind 21 = .ok (.iload_n 2, 1) := by decide +kernel
theorem dX10_kind_22 : decode cX10_kind 22 = .ok (.imul, 1) := by decide +kernel
theorem dX10_kind_23 : decode cX10_kind 23 = .ok (.iload_n 1, 1) := by decide +kernel
theorem dX10_kind_24 : decode cX10_kind 24 = .ok (.iadd, 1) := by decide +kernel
theorem dX10_kind_25 : decode cX10_kind 25 = .ok (.iaload, 1) := by decide +kernel
theorem dX10_kind_26 : decode cX10_kind 26 = .ok (.goto 5, 3) := by decide +kernel
theorem dX10_kind_29 : decode cX10_kind 29 = .ok (.ldc 40, 2) := by decide +kernel
theorem dX10_kind_31 : decode cX10_kind 31 = .ok (.ireturn, 1) := by decide +kernel
set_option maxRecDepth 20000 in
theorem ggX10_customer_X10_isCustomer : GoodIn wsX10_customer wsX10_isCustomer := goodIn_r _ [7, 8, 9, 10, 6, 11, 16, 17, 18, 19, 20, 21, 22, 23, 24, 25, 26, 27, 28, 29, 30] (by decide +kernel) (by decide +kernel)
set_option maxRecDepth 20000 in
theorem gX10_customer_X10_isCustomer : GoodIn wsX10_customer (wsV RX10 93 RX10 yX10_isCustomer wsX10_isCustomer) := goodIn_app (goodIn_of _ (by decide +kernel)) ggX10_customer_X10_isCustomer
set_option maxRecDepth 20000 in
theorem ggX10_customer_X10_in : GoodIn wsX10_customer wsX10_in := goodIn_r _ [11] (by decide +kernel) (by decide +kernel)
set_option maxRecDepth 20000 in
theorem gX10_customer_X10_in : GoodIn wsX10_customer (va_wsS RX10 32 yX10_in wsX10_in) := goodIn_app (goodIn_of _ (by decide +kernel)) ggX10_customer_X10_in
set_option maxRecDepth 20000 in
theorem ggX10_customer_X10_of : GoodIn wsX10_customer wsX10_of := goodIn_r _ [15, 8, 16, 17, 18, 19, 20, 21, 22, 23, 24, 25, 26, 27, 28, 29, 30] (by decide +kernel) (by decide +kernel)
set_option maxRecDepth 20000 in
theorem gX10_customer_X10_of : GoodIn wsX10_customer (wsV RX10 96 RX10 yX10_of wsX10_of) := goodIn_app (goodIn_of _ (by decide +kernel)) ggX10_customer_X10_of
theorem dX10_customer_0 : decode cX10_customer 0 = .ok (.aload_n 0, 1) := by decide +kernel
theorem dX10_customer_1 : decode cX10_customer 1 = .ok (.iload_n 1, 1) := by decide +kernel
theorem dX10_customer_2 : decode cX10_customer 2 = .ok (.invokevirtual 93, 3) := by decide +kernel
theorem dX10_customer_5 : decode cX10_customer 5 = .ok (.ifCond .eq 12, 3) := by decide +kernel
theorem dX10_customer_8 : decode cX10_customer 8 = .ok (.iload_n 2, 1) := by decide +kernel
theorem dX10_customer_9 : decode cX10_customer 9 = .ok (.iconst 0, 1) := by decide +kernel
theorem dX10_customer_10 : decode cX10_customer 10 = .ok (.iconst 4, 1) := by decide +kernel
theorem dX10_customer_11 : decode cX10_customer 11 = .ok (.invokestatic 32, 3) := by decide +kernel
theorem dX10_customer_14 : decode cX10_customer 14 = .ok (.ifCond .ne 6, 3) := by decide +kernel
theorem dX10_customer_17 : decode cX10_customer 17 = .ok (.ldc 40, 2) := by decide +kernel
theorem dX10_customer_19 : decode cX10_customer 19 = .ok (.ireturn, 1) := by decide +kernel
theorem dX10_customer_20 : decode cX10_customer 20 = .ok (.iload_n 2, 1) := by decide +kernel
theorem dX10_customer_21 : decode cX10_customer 21 = .ok (.ifCond .ne 12, 3) := by decide +kernel
theorem dX10_customer_24 : decode cX10_customer 24 = .ok (.aload_n 0, 1) := by decide +kernel
theorem dX10_customer_25 : decode cX10_customer 25 = .ok (.iload_n 1, 1) := by decide +kernel
theorem dX10_customer_26 : decode cX10_customer 26 = .ok (.iconst 0, 1) := by decide +kernel
theorem dX10_customer_27 : decode cX10_customer 27 = .ok (.invokevirtual 96, 3) := by decide +kernel
theorem dX10_customer_30 : decode cX10_customer 30 = .ok (.goto 25, 3) := by decide +kernel
theorem dX10_customer_33 : decode cX10_customer 33 = .ok (.aload_n 0, 1) := by decide +kernel
theorem dX10_customer_34 : decode cX10_customer 34 = .ok (.iload_n 1, 1) := by decide +kernel
theorem dX10_customer_35 : decode cX10_customer 35 = .ok (.iconst 1, 1) := by decide +kernel
theorem dX10_customer_36 : decode cX10_customer 36 = .ok (.invokevirtual 96, 3) := by decide +kernel
theorem dX10_customer_39 : decode cX10_customer 39 = .ok (.ifCond .ne 8, 3) := by decide +kernel
theorem dX10_customer_42 : decode cX10_customer 42 = .ok (.ldc 67, 2) := by decide +kernel
theorem dX10_customer_44 : decode cX10_customer 44 = .ok (.goto 11, 3) := by decide +kernel
theorem dX10_customer_47 : decode cX10_customer 47 = .ok (.aload_n 0, 1) := by decide +kernel
theorem dX10_customer_48 : decode cX10_customer 48 = .ok (.iload_n 1, 1) := by decide +kernel
theorem dX10_customer_49 : decode cX10_customer 49 = .ok (.iload_n 2, 1) := by decide +kernel
theorem dX10_customer_50 : decode cX10_customer 50 = .ok (.iconst 1, 1) := by decide +kernel
theorem dX10_customer_51 : decode cX10_customer 51 = .ok (.iadd, 1) := by decide +kernel
theorem dX10_customer_52 : decode cX10_customer 52 = .ok (.invokevirtual 96, 3) := by decide +kernel
theorem dX10_customer_55 : decode cX10_customer 55 = .ok (.ireturn, 1) := by decide +kernel
set_option maxRecDepth 20000 in
theorem ggX10_prize_X10_isPrize : GoodIn wsX10_prize wsX10_isPrize := goodIn_r _ [6, 7, 8, 9, 5, 10, 15, 16, 17, 18, 19, 20, 21, 22, 23, 24, 25, 26, 27, 28, 29] (by decide +kernel) (by decide +kernel)
set_option maxRecDepth 20000 in
theorem gX10_prize_X10_isPrize : GoodIn wsX10_prize (wsV RX10 120 RX10 yX10_isPrize wsX10_isPrize) := goodIn_app (goodIn_of _ (by decide +kernel)) ggX10_prize_X10_isPrize
set_option maxRecDepth 20000 in
theorem ggX10_prize_X10_in : GoodIn wsX10_prize wsX10_in := goodIn_r _ [10] (by decide +kernel) (by decide +kernel)
set_option maxRecDepth 20000 in
theorem gX10_prize_X10_in : GoodIn wsX10_prize (va_wsS RX10 32 yX10_in wsX10_in) := goodIn_app (goodIn_of _ (by decide +kernel)) ggX10_prize_X10_in
set_option maxRecDepth 20000 in
theorem ggX10_prize_X10_priced : GoodIn wsX10_prize wsX10_priced := goodIn_r _ [14, 7, 15, 16, 17, 18, 19, 20, 21, 22, 23, 24, 25, 26, 27, 28, 29] (by decide +kernel) (by decide +kernel)
set_option maxRecDepth 20000 in
theorem gX10_prize_X10_priced : GoodIn wsX10_prize (wsV RX10 123 RX10 yX10_priced wsX10_priced) := goodIn_app (goodIn_of _ (by decide +kernel)) ggX10_prize_X10_priced
theorem dX10_prize_0 : decode cX10_prize 0 = .ok (.aload_n 0, 1) := by decide +kernel
theorem dX10_prize_1 : decode cX10_prize 1 = .ok (.iload_n 1, 1) := by decide +kernel
theorem dX10_prize_2 : decode cX10_prize 2 = .ok (.invokevirtual 120, 3) := by decide +kernel
theorem dX10_prize_5 : decode cX10_prize 5 = .ok (.ifCond .eq 22, 3) := by decide +kernel
theorem dX10_prize_8 : decode cX10_prize 8 = .ok (.iload_n 2, 1) := by decide +kernel
theorem dX10_prize_9 : decode cX10_prize 9 = .ok (.iconst 0, 1) := by decide +kernel
theorem dX10_prize_10 : decode cX10_prize 10 = .ok (.bipush 6, 2) := by decide +kernel
theorem dX10_prize_12 : decode cX10_prize 12 = .ok (.invokestatic 32, 3) := by decide +kernel
theorem dX10_prize_15 : decode cX10_prize 15 = .ok (.ifCond .eq 12, 3) := by decide +kernel
theorem dX10_prize_18 : decode cX10_prize 18 = .ok (.aload_n 0, 1) := by decide +kernel
theorem dX10_prize_19 : decode cX10_prize 19 = .ok (.iload_n 1, 1) := by decide +kernel
theorem dX10_prize_20 : decode cX10_prize 20 = .ok (.iload_n 2, 1) := by decide +kernel
theorem dX10_prize_21 : decode cX10_prize 21 = .ok (.invokevirtual 123, 3) := by decide +kernel
theorem dX10_prize_24 : decode cX10_prize 24 = .ok (.goto 5, 3) := by decide +kernel
theorem dX10_prize_27 : decode cX10_prize 27 = .ok (.ldc 40, 2) := by decide +kernel
theorem dX10_prize_29 : decode cX10_prize 29 = .ok (.ireturn, 1) := by decide +kernel
set_option maxRecDepth 20000 in
theorem ggX10_read_X10_in : GoodIn wsX10_read wsX10_in := goodIn_r _ [7] (by decide +kernel) (by decide +kernel)
set_option maxRecDepth 20000 in
theorem gX10_read_X10_in : GoodIn wsX10_read (va_wsS RX10 32 yX10_in wsX10_in) := goodIn_app (goodIn_of _ (by decide +kernel)) ggX10_read_X10_in
set_option maxRecDepth 20000 in
theorem ggX10_read_X10_readsBy : GoodIn wsX10_read wsX10_readsBy := goodIn_r _ [11, 12, 13, 6, 14] (by decide +kernel) (by decide +kernel)
set_option maxRecDepth 20000 in
theorem gX10_read_X10_readsBy : GoodIn wsX10_read (wsV RX10 99 RX10 yX10_readsBy wsX10_readsBy) := goodIn_app (goodIn_of _ (by decide +kernel)) ggX10_read_X10_readsBy
theorem dX10_read_0 : decode cX10_read 0 = .ok (.iload_n 1, 1) := by decide +kernel
theorem dX10_read_1 : decode cX10_read 1 = .ok (.sipush (-5000), 3) := by decide +kernel
theorem dX10_read_4 : decode cX10_read 4 = .ok (.ldc 188, 2) := by decide +kernel
theorem dX10_read_6 : decode cX10_read 6 = .ok (.invokestatic 32, 3) := by decide +kernel
theorem dX10_read_9 : decode cX10_read 9 = .ok (.ifCond .eq 18, 3) := by decide +kernel
theorem dX10_read_12 : decode cX10_read 12 = .ok (.aload_n 0, 1) := by decide +kernel
theorem dX10_read_13 : decode cX10_read 13 = .ok (.iload_n 1, 1) := by decide +kernel
theorem dX10_read_14 : decode cX10_read 14 = .ok (.aload_n 0, 1) := by decide +kernel
theorem dX10_read_15 : decode cX10_read 15 = .ok (.getfield 7, 3) := by decide +kernel
theorem dX10_read_18 : decode cX10_read 18 = .ok (.bipush 8, 2) := by decide +kernel
theorem dX10_read_20 : decode cX10_read 20 = .ok (.iaload, 1) := by decide +kernel
theorem dX10_read_21 : decode cX10_read 21 = .ok (.invokevirtual 99, 3) := by decide +kernel
theorem dX10_read_24 : decode cX10_read 24 = .ok (.goto 5, 3) := by decide +kernel
theorem dX10_read_27 : decode cX10_read 27 = .ok (.ldc 40, 2) := by decide +kernel
theorem dX10_read_29 : decode cX10_read 29 = .ok (.ireturn, 1) := by decide +kernel
set_option maxRecDepth 20000 in
theorem ggX10_allowed_X10_in : GoodIn wsX10_allowed wsX10_in := goodIn_r _ [9] (by decide +kernel) (by decide +kernel)
set_option maxRecDepth 20000 in
theorem gX10_allowed_X10_in : GoodIn wsX10_allowed (va_wsS RX10 32 yX10_in wsX10_in) := goodIn_app (goodIn_of _ (by decide +kernel)) ggX10_allowed_X10_in
set_option maxRecDepth 20000 in
theorem ggX10_allowed_X10_isKind : GoodIn wsX10_allowed wsX10_isKind := goodIn_r _ [12, 6, 7, 8, 9] (by decide +kernel) (by decide +kernel)
set_option maxRecDepth 20000 in
theorem gX10_allowed_X10_isKind : GoodIn wsX10_allowed (va_wsS RX10 68 yX10_isKind wsX10_isKind) := goodIn_app (goodIn_of _ (by decide +kernel)) ggX10_allowed_X10_isKind
set_option maxRecDepth 20000 in
theorem ggX10_allowed_X10_allows : GoodIn wsX10_allowed wsX10_allows := goodIn_r _ [16, 17, 4, 5, 18, 19, 20, 8, 21, 22, 23, 24, 25, 26, 27, 28, 29, 30, 31, 32, 33, 34, 35, 36, 37, 38, 39, 40, 41, 42, 43, 44] (by decide +kernel) (by decide +kernel)
set_option maxRecDepth 20000 in
theorem gX10_allowed_X10_allows : GoodIn wsX10_allowed (wsV RX10 63 RX10 yX10_allows wsX10_allows) := goodIn_app (goodIn_of _ (by decide +kernel)) ggX10_allowed_X10_allows
theorem dX10_allowed_0 : decode cX10_allowed 0 = .ok (.iload_n 1, 1) := by decide +kernel
theorem dX10_allowed_1 : decode cX10_allowed 1 = .ok (.iconst 0, 1) := by decide +kernel
theorem dX10_allowed_2 : decode cX10_allowed 2 = .ok (.ldc 188, 2) := by decide +kernel
theorem dX10_allowed_4 : decode cX10_allowed 4 = .ok (.invokestatic 32, 3) := by decide +kernel
theorem dX10_allowed_7 : decode cX10_allowed 7 = .ok (.ifCond .eq 19, 3) := by decide +kernel
theorem dX10_allowed_10 : decode cX10_allowed 10 = .ok (.iload_n 2, 1) := by decide +kernel
theorem dX10_allowed_11 : decode cX10_allowed 11 = .ok (.invokestatic 68, 3) := by decide +kernel
theorem dX10_allowed_14 : decode cX10_allowed 14 = .ok (.ifCond .eq 12, 3) := by decide +kernel
theorem dX10_allowed_17 : decode cX10_allowed 17 = .ok (.iload_n 3, 1) := by decide +kernel
theorem dX10_allowed_18 : decode cX10_allowed 18 = .ok (.iconst 0, 1) := by decide +kernel
theorem dX10_allowed_19 : decode cX10_allowed 19 = .ok (.iconst 2, 1) := by decide +kernel
theorem dX10_allowed_20 : decode cX10_allowed 20 = .ok (.invokestatic 32, 3) := by decide +kernel
theorem dX10_allowed_23 : decode cX10_allowed 23 = .ok (.ifCond .ne 6, 3) := by decide +kernel
theorem dX10_allowed_26 : decode cX10_allowed 26 = .ok (.ldc 40, 2) := by decide +kernel
theorem dX10_allowed_28 : decode cX10_allowed 28 = .ok (.ireturn, 1) := by decide +kernel
theorem dX10_allowed_29 : decode cX10_allowed 29 = .ok (.aload_n 0, 1) := by decide +kernel
theorem dX10_allowed_30 : decode cX10_allowed 30 = .ok (.iload_n 1, 1) := by decide +kernel
theorem dX10_allowed_31 : decode cX10_allowed 31 = .ok (.iload_n 2, 1) := by decide +kernel
theorem dX10_allowed_32 : decode cX10_allowed 32 = .ok (.invokevirtual 63, 3) := by decide +kernel
theorem dX10_allowed_35 : decode cX10_allowed 35 = .ok (.ifCond .ne 15, 3) := by decide +kernel
theorem dX10_allowed_38 : decode cX10_allowed 38 = .ok (.iload_n 3, 1) := by decide +kernel
theorem dX10_allowed_39 : decode cX10_allowed 39 = .ok (.iconst 2, 1) := by decide +kernel
theorem dX10_allowed_40 : decode cX10_allowed 40 = .ok (.if_icmp .ne 7, 3) := by decide +kernel
theorem dX10_allowed_43 : decode cX10_allowed 43 = .ok (.iconst 0, 1) := by decide +kernel
theorem dX10_allowed_44 : decode cX10_allowed 44 = .ok (.goto 5, 3) := by decide +kernel
theorem dX10_allowed_47 : decode cX10_allowed 47 = .ok (.ldc 67, 2) := by decide +kernel
theorem dX10_allowed_49 : decode cX10_allowed 49 = .ok (.ireturn, 1) := by decide +kernel
theorem dX10_allowed_50 : decode cX10_allowed 50 = .ok (.iload_n 3, 1) := by decide +kernel
theorem dX10_allowed_51 : decode cX10_allowed 51 = .ok (.ifCond .ne 10, 3) := by decide +kernel
theorem dX10_allowed_54 : decode cX10_allowed 54 = .ok (.aload_n 0, 1) := by decide +kernel
theorem dX10_allowed_55 : decode cX10_allowed 55 = .ok (.getfield 54, 3) := by decide +kernel
theorem dX10_allowed_58 : decode cX10_allowed 58 = .ok (.goto 26, 3) := by decide +kernel
theorem dX10_allowed_61 : decode cX10_allowed 61 = .ok (.iload_n 3, 1) := by decide +kernel
theorem dX10_allowed_62 : decode cX10_allowed 62 = .ok (.iconst 1, 1) := by decide +kernel
theorem dX10_allowed_63 : decode cX10_allowed 63 = .ok (.if_icmp .ne 10, 3) := by decide +kernel
theorem dX10_allowed_66 : decode cX10_allowed 66 = .ok (.aload_n 0, 1) := by decide +kernel
theorem dX10_allowed_67 : decode cX10_allowed 67 = .ok (.getfield 60, 3) := by decide +kernel
theorem dX10_allowed_70 : decode cX10_allowed 70 = .ok (.goto 14, 3) := by decide +kernel
theorem dX10_allowed_73 : decode cX10_allowed 73 = .ok (.aload_n 0, 1) := by decide +kernel
theorem dX10_allowed_74 : decode cX10_allowed 74 = .ok (.getfield 60, 3) := by decide +kernel
theorem dX10_allowed_77 : decode cX10_allowed 77 = .ok (.aload_n 0, 1) := by decide +kernel
theorem dX10_allowed_78 : decode cX10_allowed 78 = .ok (.getfield 54, 3) := by decide +kernel
theorem dX10_allowed_81 : decode cX10_allowed 81 = .ok (.isub, 1) := by decide +kernel
theorem dX10_allowed_82 : decode cX10_allowed 82 = .ok (.iconst 1, 1) := by decide +kernel
theorem dX10_allowed_83 : decode cX10_allowed 83 = .ok (.iadd, 1) := by decide +kernel
theorem dX10_allowed_84 : decode cX10_allowed 84 = .ok (.ireturn, 1) := by decide +kernel
set_option maxRecDepth 20000 in
theorem ggX10_guess_X10_in : GoodIn wsX10_guess wsX10_in := goodIn_r _ [6] (by decide +kernel) (by decide +kernel)
set_option maxRecDepth 20000 in
theorem gX10_guess_X10_in : GoodIn wsX10_guess (va_wsS RX10 32 yX10_in wsX10_in) := goodIn_app (goodIn_of _ (by decide +kernel)) ggX10_guess_X10_in
set_option maxRecDepth 20000 in
theorem ggX10_guess_X10_isKind : GoodIn wsX10_guess wsX10_isKind := goodIn_r _ [9, 3, 4, 5, 6] (by decide +kernel) (by decide +kernel)
set_option maxRecDepth 20000 in
theorem gX10_guess_X10_isKind : GoodIn wsX10_guess (va_wsS RX10 68 yX10_isKind wsX10_isKind) := goodIn_app (goodIn_of _ (by decide +kernel)) ggX10_guess_X10_isKind
set_option maxRecDepth 20000 in
theorem ggX10_guess_X10_guesses : GoodIn wsX10_guess wsX10_guesses := goodIn_r _ [13, 14, 15, 16, 17, 18, 19, 20, 5, 21, 22, 23, 24, 25, 26, 27, 28, 29, 30, 31, 32, 33, 34, 35, 36, 37, 38, 39, 40, 41, 42, 43, 44, 45, 46, 47, 48] (by decide +kernel) (by decide +kernel)
set_option maxRecDepth 20000 in
theorem gX10_guess_X10_guesses : GoodIn wsX10_guess (wsV RX10 102 RX10 yX10_guesses wsX10_guesses) := goodIn_app (goodIn_of _ (by decide +kernel)) ggX10_guess_X10_guesses
theorem dX10_guess_0 : decode cX10_guess 0 = .ok (.iload_n 1, 1) := by decide +kernel
theorem dX10_guess_1 : decode cX10_guess 1 = .ok (.iconst 0, 1) := by decide +kernel
theorem dX10_guess_2 : decode cX10_guess 2 = .ok (.ldc 188, 2) := by decide +kernel
theorem dX10_guess_4 : decode cX10_guess 4 = .ok (.invokestatic 32, 3) := by decide +kernel
theorem dX10_guess_7 : decode cX10_guess 7 = .ok (.ifCond .eq 29, 3) := by decide +kernel
theorem dX10_guess_10 : decode cX10_guess 10 = .ok (.iload_n 2, 1) := by decide +kernel
theorem dX10_guess_11 : decode cX10_guess 11 = .ok (.invokestatic 68, 3) := by decide +kernel
theorem dX10_guess_14 : decode cX10_guess 14 = .ok (.ifCond .eq 22, 3) := by decide +kernel
theorem dX10_guess_17 : decode cX10_guess 17 = .ok (.iload_n 3, 1) := by decide +kernel
theorem dX10_guess_18 : decode cX10_guess 18 = .ok (.iconst 0, 1) := by decide +kernel
theorem dX10_guess_19 : decode cX10_guess 19 = .ok (.iconst 3, 1) := by decide +kernel
theorem dX10_guess_20 : decode cX10_guess 20 = .ok (.invokestatic 32, 3) := by decide +kernel
theorem dX10_guess_23 : decode cX10_guess 23 = .ok (.ifCond .eq 13, 3) := by decide +kernel
theorem dX10_guess_26 : decode cX10_guess 26 = .ok (.aload_n 0, 1) := by decide +kernel
theorem dX10_guess_27 : decode cX10_guess 27 = .ok (.iload_n 1, 1) := by decide +kernel
theorem dX10_guess_28 : decode cX10_guess 28 = .ok (.iload_n 2, 1) := by decide +kernel
theorem dX10_guess_29 : decode cX10_guess 29 = .ok (.iload_n 3, 1) := by decide +kernel
theorem dX10_guess_30 : decode cX10_guess 30 = .ok (.invokevirtual 102, 3) := by decide +kernel
theorem dX10_guess_33 : decode cX10_guess 33 = .ok (.goto 5, 3) := by decide +kernel
theorem dX10_guess_36 : decode cX10_guess 36 = .ok (.ldc 40, 2) := by decide +kernel
theorem dX10_guess_38 : decode cX10_guess 38 = .ok (.ireturn, 1) := by decide +kernel
set_option maxRecDepth 20000 in
theorem ggX10_apart_X10_readsBy : GoodIn wsX10_apart wsX10_readsBy := goodIn_r _ [6, 7, 8, 5, 9] (by decide +kernel) (by decide +kernel)
set_option maxRecDepth 20000 in
theorem gX10_apart_X10_readsBy : GoodIn wsX10_apart (wsV RX10 99 RX10 yX10_readsBy wsX10_readsBy) := goodIn_app (goodIn_of _ (by decide +kernel)) ggX10_apart_X10_readsBy
theorem dX10_apart_0 : decode cX10_apart 0 = .ok (.aload_n 0, 1) := by decide +kernel
theorem dX10_apart_1 : decode cX10_apart 1 = .ok (.getfield 7, 3) := by decide +kernel
theorem dX10_apart_4 : decode cX10_apart 4 = .ok (.iload_n 1, 1) := by decide +kernel
theorem dX10_apart_5 : decode cX10_apart 5 = .ok (.iaload, 1) := by decide +kernel
theorem dX10_apart_6 : decode cX10_apart 6 = .ok (.aload_n 0, 1) := by decide +kernel
theorem dX10_apart_7 : decode cX10_apart 7 = .ok (.getfield 7, 3) := by decide +kernel
theorem dX10_apart_10 : decode cX10_apart 10 = .ok (.iconst 4, 1) := by decide +kernel
theorem dX10_apart_11 : decode cX10_apart 11 = .ok (.iload_n 1, 1) := by decide +kernel
theorem dX10_apart_12 : decode cX10_apart 12 = .ok (.iadd, 1) := by decide +kernel
theorem dX10_apart_13 : decode cX10_apart 13 = .ok (.iaload, 1) := by decide +kernel
theorem dX10_apart_14 : decode cX10_apart 14 = .ok (.isub, 1) := by decide +kernel
theorem dX10_apart_15 : decode cX10_apart 15 = .ok (.istore 4, 2) := by decide +kernel
theorem dX10_apart_17 : decode cX10_apart 17 = .ok (.aload_n 0, 1) := by decide +kernel
theorem dX10_apart_18 : decode cX10_apart 18 = .ok (.getfield 7, 3) := by decide +kernel
theorem dX10_apart_21 : decode cX10_apart 21 = .ok (.iload_n 1, 1) := by decide +kernel
theorem dX10_apart_22 : decode cX10_apart 22 = .ok (.iaload, 1) := by decide +kernel
theorem dX10_apart_23 : decode cX10_apart 23 = .ok (.aload_n 0, 1) := by decide +kernel
theorem dX10_apart_24 : decode cX10_apart 24 = .ok (.getfield 7, 3) := by decide +kernel
theorem dX10_apart_27 : decode cX10_apart 27 = .ok (.iconst 4, 1) := by decide +kernel
theorem dX10_apart_28 : decode cX10_apart 28 = .ok (.iload_n 1, 1) := by decide +kernel
theorem dX10_apart_29 : decode cX10_apart 29 = .ok (.iadd, 1) := by decide +kernel
theorem dX10_apart_30 : decode cX10_apart 30 = .ok (.iaload, 1) := by decide +kernel
theorem dX10_apart_31 : decode cX10_apart 31 = .ok (.iadd, 1) := by decide +kernel
theorem dX10_apart_32 : decode cX10_apart 32 = .ok (.istore 5, 2) := by decide +kernel
theorem dX10_apart_34 : decode cX10_apart 34 = .ok (.iconst 0, 1) := by decide +kernel
theorem dX10_apart_35 : decode cX10_apart 35 = .ok (.istore 6, 2) := by decide +kernel
theorem dX10_apart_37 : decode cX10_apart 37 = .ok (.iload 6, 2) := by decide +kernel
theorem dX10_apart_39 : decode cX10_apart 39 = .ok (.iload_n 3, 1) := by decide +kernel
theorem dX10_apart_40 : decode cX10_apart 40 = .ok (.if_icmp .ge 50, 3) := by decide +kernel
theorem dX10_apart_43 : decode cX10_apart 43 = .ok (.aload_n 0, 1) := by decide +kernel
theorem dX10_apart_44 : decode cX10_apart 44 = .ok (.iload 6, 2) := by decide +kernel
theorem dX10_apart_46 : decode cX10_apart 46 = .ok (.iconst 1, 1) := by decide +kernel
theorem dX10_apart_47 : decode cX10_apart 47 = .ok (.iadd, 1) := by decide +kernel
theorem dX10_apart_48 : decode cX10_apart 48 = .ok (.iload 4, 2) := by decide +kernel
theorem dX10_apart_50 : decode cX10_apart 50 = .ok (.imul, 1) := by decide +kernel
theorem dX10_apart_51 : decode cX10_apart 51 = .ok (.aload_n 0, 1) := by decide +kernel
theorem dX10_apart_52 : decode cX10_apart 52 = .ok (.getfield 7, 3) := by decide +kernel
theorem dX10_apart_55 : decode cX10_apart 55 = .ok (.bipush 9, 2) := by decide +kernel
theorem dX10_apart_57 : decode cX10_apart 57 = .ok (.iaload, 1) := by decide +kernel
theorem dX10_apart_58 : decode cX10_apart 58 = .ok (.isub, 1) := by decide +kernel
theorem dX10_apart_59 : decode cX10_apart 59 = .ok (.iload_n 2, 1) := by decide +kernel
theorem dX10_apart_60 : decode cX10_apart 60 = .ok (.invokevirtual 99, 3) := by decide +kernel
theorem dX10_apart_63 : decode cX10_apart 63 = .ok (.aload_n 0, 1) := by decide +kernel
theorem dX10_apart_64 : decode cX10_apart 64 = .ok (.iload 6, 2) := by decide +kernel
theorem dX10_apart_66 : decode cX10_apart 66 = .ok (.iload 5, 2) := by decide +kernel
theorem dX10_apart_68 : decode cX10_apart 68 = .ok (.imul, 1) := by decide +kernel
theorem dX10_apart_69 : decode cX10_apart 69 = .ok (.aload_n 0, 1) := by decide +kernel
theorem dX10_apart_70 : decode cX10_apart 70 = .ok (.getfield 7, 3) := by decide +kernel
theorem dX10_apart_73 : decode cX10_apart 73 = .ok (.bipush 9, 2) := by decide +kernel
theorem dX10_apart_75 : decode cX10_apart 75 = .ok (.iaload, 1) := by decide +kernel
theorem dX10_apart_76 : decode cX10_apart 76 = .ok (.iadd, 1) := by decide +kernel
theorem dX10_apart_77 : decode cX10_apart 77 = .ok (.iload_n 2, 1) := by decide +kernel
theorem dX10_apart_78 : decode cX10_apart 78 = .ok (.invokevirtual 99, 3) := by decide +kernel
theorem dX10_apart_81 : decode cX10_apart 81 = .ok (.if_icmp .le 9, 3) := by decide +kernel
theorem dX10_apart_84 : decode cX10_apart 84 = .ok (.iinc 6 1, 3) := by decide +kernel
theorem dX10_apart_87 : decode cX10_apart 87 = .ok (.goto (-50), 3) := by decide +kernel
theorem dX10_apart_90 : decode cX10_apart 90 = .ok (.iload 6, 2) := by decide +kernel
theorem dX10_apart_92 : decode cX10_apart 92 = .ok (.ireturn, 1) := by decide +kernel
set_option maxRecDepth 20000 in
theorem ggX10_apartUpTo_X10_isKind : GoodIn wsX10_apartUpTo wsX10_isKind := goodIn_r _ [6, 7, 8, 5, 9] (by decide +kernel) (by decide +kernel)
set_option maxRecDepth 20000 in
theorem gX10_apartUpTo_X10_isKind : GoodIn wsX10_apartUpTo (va_wsS RX10 68 yX10_isKind wsX10_isKind) := goodIn_app (goodIn_of _ (by decide +kernel)) ggX10_apartUpTo_X10_isKind
set_option maxRecDepth 20000 in
theorem ggX10_apartUpTo_X10_apart : GoodIn wsX10_apartUpTo wsX10_apart := goodIn_r _ [13, 1, 14, 15, 16, 5, 17, 18, 19, 20, 21, 22, 23, 24, 25, 26, 27, 28, 29, 30, 31, 32, 33, 34, 35] (by decide +kernel) (by decide +kernel)
set_option maxRecDepth 20000 in
theorem gX10_apartUpTo_X10_apart : GoodIn wsX10_apartUpTo (wsV RX10 189 RX10 yX10_apart wsX10_apart) := goodIn_app (goodIn_of _ (by decide +kernel)) ggX10_apartUpTo_X10_apart
theorem dX10_apartUpTo_0 : decode cX10_apartUpTo 0 = .ok (.iload_n 1, 1) := by decide +kernel
theorem dX10_apartUpTo_1 : decode cX10_apartUpTo 1 = .ok (.invokestatic 68, 3) := by decide +kernel
theorem dX10_apartUpTo_4 : decode cX10_apartUpTo 4 = .ok (.ifCond .eq 21, 3) := by decide +kernel
theorem dX10_apartUpTo_7 : decode cX10_apartUpTo 7 = .ok (.aload_n 0, 1) := by decide +kernel
theorem dX10_apartUpTo_8 : decode cX10_apartUpTo 8 = .ok (.iload_n 1, 1) := by decide +kernel
theorem dX10_apartUpTo_9 : decode cX10_apartUpTo 9 = .ok (.aload_n 0, 1) := by decide +kernel
theorem dX10_apartUpTo_10 : decode cX10_apartUpTo 10 = .ok (.getfield 7, 3) := by decide +kernel
theorem dX10_apartUpTo_13 : decode cX10_apartUpTo 13 = .ok (.bipush 8, 2) := by decide +kernel
theorem dX10_apartUpTo_15 : decode cX10_apartUpTo 15 = .ok (.iaload, 1) := by decide +kernel
theorem dX10_apartUpTo_16 : decode cX10_apartUpTo 16 = .ok (.sipush 999, 3) := by decide +kernel
theorem dX10_apartUpTo_19 : decode cX10_apartUpTo 19 = .ok (.invokevirtual 189, 3) := by decide +kernel
theorem dX10_apartUpTo_22 : decode cX10_apartUpTo 22 = .ok (.goto 5, 3) := by decide +kernel
theorem dX10_apartUpTo_25 : decode cX10_apartUpTo 25 = .ok (.ldc 40, 2) := by decide +kernel
theorem dX10_apartUpTo_27 : decode cX10_apartUpTo 27 = .ok (.ireturn, 1) := by decide +kernel
set_option maxRecDepth 20000 in
theorem ggX10_bestStep_X10_isKind : GoodIn wsX10_bestStep wsX10_isKind := goodIn_r _ [6, 7, 8, 5, 9] (by decide +kernel) (by decide +kernel)
set_option maxRecDepth 20000 in
theorem gX10_bestStep_X10_isKind : GoodIn wsX10_bestStep (va_wsS RX10 68 yX10_isKind wsX10_isKind) := goodIn_app (goodIn_of _ (by decide +kernel)) ggX10_bestStep_X10_isKind
set_option maxRecDepth 20000 in
theorem ggX10_bestStep_X10_in : GoodIn wsX10_bestStep wsX10_in := goodIn_r _ [9] (by decide +kernel) (by decide +kernel)
set_option maxRecDepth 20000 in
theorem gX10_bestStep_X10_in : GoodIn wsX10_bestStep (va_wsS RX10 32 yX10_in wsX10_in) := goodIn_app (goodIn_of _ (by decide +kernel)) ggX10_bestStep_X10_in
set_option maxRecDepth 20000 in
theorem ggX10_bestStep_X10_apart : GoodIn wsX10_bestStep wsX10_apart := goodIn_r _ [13, 14, 15, 16, 17, 5, 18, 19, 20, 21, 22, 23, 24, 25, 26, 27, 28, 29, 30, 31, 32, 33, 34, 35, 36] (by decide +kernel) (by decide +kernel)
set_option maxRecDepth 20000 in
theorem gX10_bestStep_X10_apart : GoodIn wsX10_bestStep (wsV RX10 189 RX10 yX10_apart wsX10_apart) := goodIn_app (goodIn_of _ (by decide +kernel)) ggX10_bestStep_X10_apart
theorem dX10_bestStep_0 : decode cX10_bestStep 0 = .ok (.iload_n 1, 1) := by decide +kernel
theorem dX10_bestStep_1 : decode cX10_bestStep 1 = .ok (.invokestatic 68, 3) := by decide +kernel
theorem dX10_bestStep_4 : decode cX10_bestStep 4 = .ok (.ifCond .eq 13, 3) := by decide +kernel
theorem dX10_bestStep_7 : decode cX10_bestStep 7 = .ok (.iload_n 2, 1) := by decide +kernel
theorem dX10_bestStep_8 : decode cX10_bestStep 8 = .ok (.iconst 0, 1) := by decide +kernel
theorem dX10_bestStep_9 : decode cX10_bestStep 9 = .ok (.bipush 99, 2) := by decide +kernel
theorem dX10_bestStep_11 : decode cX10_bestStep 11 = .ok (.invokestatic 32, 3) := by decide +kernel
theorem dX10_bestStep_14 : decode cX10_bestStep 14 = .ok (.ifCond .ne 6, 3) := by decide +kernel
theorem dX10_bestStep_17 : decode cX10_bestStep 17 = .ok (.ldc 40, 2) := by decide +kernel
theorem dX10_bestStep_19 : decode cX10_bestStep 19 = .ok (.ireturn, 1) := by decide +kernel
theorem dX10_bestStep_20 : decode cX10_bestStep 20 = .ok (.sipush 1000, 3) := by decide +kernel
theorem dX10_bestStep_23 : decode cX10_bestStep 23 = .ok (.istore_n 3, 1) := by decide +kernel
theorem dX10_bestStep_24 : decode cX10_bestStep 24 = .ok (.iload_n 3, 1) := by decide +kernel
theorem dX10_bestStep_25 : decode cX10_bestStep 25 = .ok (.ifCond .le 22, 3) := by decide +kernel
theorem dX10_bestStep_28 : decode cX10_bestStep 28 = .ok (.aload_n 0, 1) := by decide +kernel
theorem dX10_bestStep_29 : decode cX10_bestStep 29 = .ok (.iload_n 1, 1) := by decide +kernel
theorem dX10_bestStep_30 : decode cX10_bestStep 30 = .ok (.iload_n 3, 1) := by decide +kernel
theorem dX10_bestStep_31 : decode cX10_bestStep 31 = .ok (.iload_n 2, 1) := by decide +kernel
theorem dX10_bestStep_32 : decode cX10_bestStep 32 = .ok (.invokevirtual 189, 3) := by decide +kernel
theorem dX10_bestStep_35 : decode cX10_bestStep 35 = .ok (.iload_n 2, 1) := by decide +kernel
theorem dX10_bestStep_36 : decode cX10_bestStep 36 = .ok (.if_icmp .ne 5, 3) := by decide +kernel
theorem dX10_bestStep_39 : decode cX10_bestStep 39 = .ok (.iload_n 3, 1) := by decide +kernel
theorem dX10_bestStep_40 : decode cX10_bestStep 40 = .ok (.ireturn, 1) := by decide +kernel
theorem dX10_bestStep_41 : decode cX10_bestStep 41 = .ok (.iinc 3 (-1), 3) := by decide +kernel
theorem dX10_bestStep_44 : decode cX10_bestStep 44 = .ok (.goto (-20), 3) := by decide +kernel
theorem dX10_bestStep_47 : decode cX10_bestStep 47 = .ok (.ldc 67, 2) := by decide +kernel
theorem dX10_bestStep_49 : decode cX10_bestStep 49 = .ok (.ireturn, 1) := by decide +kernel
set_option maxRecDepth 20000 in
theorem ggX10_mixes_X10_highest : GoodIn wsX10_mixes wsX10_highest := goodIn_r _ [6, 1, 7, 8, 5, 9, 15, 16, 17, 18, 19, 20, 21, 22, 23, 24, 25, 26, 27, 28, 29] (by decide +kernel) (by decide +kernel)
set_option maxRecDepth 20000 in
theorem gX10_mixes_X10_highest : GoodIn wsX10_mixes (wsV RX10 57 RX10 yX10_highest wsX10_highest) := goodIn_app (goodIn_of _ (by decide +kernel)) ggX10_mixes_X10_highest
set_option maxRecDepth 20000 in
theorem ggX10_mixes_X10_lowest : GoodIn wsX10_mixes wsX10_lowest := goodIn_r _ [13, 14, 1, 7, 8, 5, 9, 15, 16, 17, 18, 19, 20, 21, 22, 23, 24, 25, 26, 27, 28, 29] (by decide +kernel) (by decide +kernel)
set_option maxRecDepth 20000 in
theorem gX10_mixes_X10_lowest : GoodIn wsX10_mixes (wsV RX10 50 RX10 yX10_lowest wsX10_lowest) := goodIn_app (goodIn_of _ (by decide +kernel)) ggX10_mixes_X10_lowest
theorem dX10_mixes_0 : decode cX10_mixes 0 = .ok (.iload_n 2, 1) := by decide +kernel
theorem dX10_mixes_1 : decode cX10_mixes 1 = .ok (.aload_n 0, 1) := by decide +kernel
theorem dX10_mixes_2 : decode cX10_mixes 2 = .ok (.getfield 7, 3) := by decide +kernel
theorem dX10_mixes_5 : decode cX10_mixes 5 = .ok (.iload_n 1, 1) := by decide +kernel
theorem dX10_mixes_6 : decode cX10_mixes 6 = .ok (.iaload, 1) := by decide +kernel
theorem dX10_mixes_7 : decode cX10_mixes 7 = .ok (.aload_n 0, 1) := by decide +kernel
theorem dX10_mixes_8 : decode cX10_mixes 8 = .ok (.getfield 7, 3) := by decide +kernel
theorem dX10_mixes_11 : decode cX10_mixes 11 = .ok (.iconst 4, 1) := by decide +kernel
theorem dX10_mixes_12 : decode cX10_mixes 12 = .ok (.iload_n 1, 1) := by decide +kernel
theorem dX10_mixes_13 : decode cX10_mixes 13 = .ok (.iadd, 1) := by decide +kernel
theorem dX10_mixes_14 : decode cX10_mixes 14 = .ok (.iaload, 1) := by decide +kernel
theorem dX10_mixes_15 : decode cX10_mixes 15 = .ok (.isub, 1) := by decide +kernel
theorem dX10_mixes_16 : decode cX10_mixes 16 = .ok (.imul, 1) := by decide +kernel
theorem dX10_mixes_17 : decode cX10_mixes 17 = .ok (.iload 4, 2) := by decide +kernel
theorem dX10_mixes_19 : decode cX10_mixes 19 = .ok (.aload_n 0, 1) := by decide +kernel
theorem dX10_mixes_20 : decode cX10_mixes 20 = .ok (.getfield 7, 3) := by decide +kernel
theorem dX10_mixes_23 : decode cX10_mixes 23 = .ok (.iload_n 3, 1) := by decide +kernel
theorem dX10_mixes_24 : decode cX10_mixes 24 = .ok (.iaload, 1) := by decide +kernel
theorem dX10_mixes_25 : decode cX10_mixes 25 = .ok (.aload_n 0, 1) := by decide +kernel
theorem dX10_mixes_26 : decode cX10_mixes 26 = .ok (.getfield 7, 3) := by decide +kernel
theorem dX10_mixes_29 : decode cX10_mixes 29 = .ok (.iconst 4, 1) := by decide +kernel
theorem dX10_mixes_30 : decode cX10_mixes 30 = .ok (.iload_n 3, 1) := by decide +kernel
theorem dX10_mixes_31 : decode cX10_mixes 31 = .ok (.iadd, 1) := by decide +kernel
theorem dX10_mixes_32 : decode cX10_mixes 32 = .ok (.iaload, 1) := by decide +kernel
theorem dX10_mixes_33 : decode cX10_mixes 33 = .ok (.isub, 1) := by decide +kernel
theorem dX10_mixes_34 : decode cX10_mixes 34 = .ok (.imul, 1) := by decide +kernel
theorem dX10_mixes_35 : decode cX10_mixes 35 = .ok (.iadd, 1) := by decide +kernel
theorem dX10_mixes_36 : decode cX10_mixes 36 = .ok (.aload_n 0, 1) := by decide +kernel
theorem dX10_mixes_37 : decode cX10_mixes 37 = .ok (.getfield 7, 3) := by decide +kernel
theorem dX10_mixes_40 : decode cX10_mixes 40 = .ok (.bipush 9, 2) := by decide +kernel
theorem dX10_mixes_42 : decode cX10_mixes 42 = .ok (.iaload, 1) := by decide +kernel
theorem dX10_mixes_43 : decode cX10_mixes 43 = .ok (.isub, 1) := by decide +kernel
theorem dX10_mixes_44 : decode cX10_mixes 44 = .ok (.istore 6, 2) := by decide +kernel
theorem dX10_mixes_46 : decode cX10_mixes 46 = .ok (.iload_n 2, 1) := by decide +kernel
theorem dX10_mixes_47 : decode cX10_mixes 47 = .ok (.aload_n 0, 1) := by decide +kernel
theorem dX10_mixes_48 : decode cX10_mixes 48 = .ok (.getfield 7, 3) := by decide +kernel
theorem dX10_mixes_51 : decode cX10_mixes 51 = .ok (.iload_n 1, 1) := by decide +kernel
theorem dX10_mixes_52 : decode cX10_mixes 52 = .ok (.iaload, 1) := by decide +kernel
theorem dX10_mixes_53 : decode cX10_mixes 53 = .ok (.aload_n 0, 1) := by decide +kernel
theorem dX10_mixes_54 : decode cX10_mixes 54 = .ok (.getfield 7, 3) := by decide +kernel
theorem dX10_mixes_57 : decode cX10_mixes 57 = .ok (.iconst 4, 1) := by decide +kernel
theorem dX10_mixes_58 : decode cX10_mixes 58 = .ok (.iload_n 1, 1) := by decide +kernel
theorem dX10_mixes_59 : decode cX10_mixes 59 = .ok (.iadd, 1) := by decide +kernel
theorem dX10_mixes_60 : decode cX10_mixes 60 = .ok (.iaload, 1) := by decide +kernel
theorem dX10_mixes_61 : decode cX10_mixes 61 = .ok (.iadd, 1) := by decide +kernel
theorem dX10_mixes_62 : decode cX10_mixes 62 = .ok (.imul, 1) := by decide +kernel
theorem dX10_mixes_63 : decode cX10_mixes 63 = .ok (.iload 4, 2) := by decide +kernel
theorem dX10_mixes_65 : decode cX10_mixes 65 = .ok (.aload_n 0, 1) := by decide +kernel
theorem dX10_mixes_66 : decode cX10_mixes 66 = .ok (.getfield 7, 3) := by decide +kernel
theorem dX10_mixes_69 : decode cX10_mixes 69 = .ok (.iload_n 3, 1) := by decide +kernel
theorem dX10_mixes_70 : decode cX10_mixes 70 = .ok (.iaload, 1) := by decide +kernel
theorem dX10_mixes_71 : decode cX10_mixes 71 = .ok (.aload_n 0, 1) := by decide +kernel
theorem dX10_mixes_72 : decode cX10_mixes 72 = .ok (.getfield 7, 3) := by decide +kernel
theorem dX10_mixes_75 : decode cX10_mixes 75 = .ok (.iconst 4, 1) := by decide +kernel
theorem dX10_mixes_76 : decode cX10_mixes 76 = .ok (.iload_n 3, 1) := by decide +kernel
theorem dX10_mixes_77 : decode cX10_mixes 77 = .ok (.iadd, 1) := by decide +kernel
theorem dX10_mixes_78 : decode cX10_mixes 78 = .ok (.iaload, 1) := by decide +kernel
theorem dX10_mixes_79 : decode cX10_mixes 79 = .ok (.iadd, 1) := by decide +kernel
theorem dX10_mixes_80 : decode cX10_mixes 80 = .ok (.imul, 1) := by decide +kernel
theorem dX10_mixes_81 : decode cX10_mixes 81 = .ok (.iadd, 1) := by decide +kernel
theorem dX10_mixes_82 : decode cX10_mixes 82 = .ok (.aload_n 0, 1) := by decide +kernel
theorem dX10_mixes_83 : decode cX10_mixes 83 = .ok (.getfield 7, 3) := by decide +kernel
theorem dX10_mixes_86 : decode cX10_mixes 86 = .ok (.bipush 9, 2) := by decide +kernel
theorem dX10_mixes_88 : decode cX10_mixes 88 = .ok (.iaload, 1) := by decide +kernel
theorem dX10_mixes_89 : decode cX10_mixes 89 = .ok (.iadd, 1) := by decide +kernel
theorem dX10_mixes_90 : decode cX10_mixes 90 = .ok (.istore 7, 2) := by decide +kernel
theorem dX10_mixes_92 : decode cX10_mixes 92 = .ok (.iload 5, 2) := by decide +kernel
theorem dX10_mixes_94 : decode cX10_mixes 94 = .ok (.aload_n 0, 1) := by decide +kernel
theorem dX10_mixes_95 : decode cX10_mixes 95 = .ok (.getfield 7, 3) := by decide +kernel
theorem dX10_mixes_98 : decode cX10_mixes 98 = .ok (.bipush 8, 2) := by decide +kernel
theorem dX10_mixes_100 : decode cX10_mixes 100 = .ok (.iaload, 1) := by decide +kernel
theorem dX10_mixes_101 : decode cX10_mixes 101 = .ok (.irem, 1) := by decide +kernel
theorem dX10_mixes_102 : decode cX10_mixes 102 = .ok (.ifCond .ne 29, 3) := by decide +kernel
theorem dX10_mixes_105 : decode cX10_mixes 105 = .ok (.iload 6, 2) := by decide +kernel
theorem dX10_mixes_107 : decode cX10_mixes 107 = .ok (.aload_n 0, 1) := by decide +kernel
theorem dX10_mixes_108 : decode cX10_mixes 108 = .ok (.iload 5, 2) := by decide +kernel
theorem dX10_mixes_110 : decode cX10_mixes 110 = .ok (.invokevirtual 57, 3) := by decide +kernel
theorem dX10_mixes_113 : decode cX10_mixes 113 = .ok (.if_icmp .gt 18, 3) := by decide +kernel
theorem dX10_mixes_116 : decode cX10_mixes 116 = .ok (.iload 7, 2) := by decide +kernel
theorem dX10_mixes_118 : decode cX10_mixes 118 = .ok (.aload_n 0, 1) := by decide +kernel
theorem dX10_mixes_119 : decode cX10_mixes 119 = .ok (.iload 5, 2) := by decide +kernel
theorem dX10_mixes_121 : decode cX10_mixes 121 = .ok (.invokevirtual 50, 3) := by decide +kernel
theorem dX10_mixes_124 : decode cX10_mixes 124 = .ok (.if_icmp .lt 7, 3) := by decide +kernel
theorem dX10_mixes_127 : decode cX10_mixes 127 = .ok (.iconst 1, 1) := by decide +kernel
theorem dX10_mixes_128 : decode cX10_mixes 128 = .ok (.goto 4, 3) := by decide +kernel
theorem dX10_mixes_131 : decode cX10_mixes 131 = .ok (.iconst 0, 1) := by decide +kernel
theorem dX10_mixes_132 : decode cX10_mixes 132 = .ok (.ireturn, 1) := by decide +kernel
set_option maxRecDepth 20000 in
theorem ggX10_mixed_X10_isKind : GoodIn wsX10_mixed wsX10_isKind := goodIn_r _ [7, 8, 9, 6, 10] (by decide +kernel) (by decide +kernel)
set_option maxRecDepth 20000 in
theorem gX10_mixed_X10_isKind : GoodIn wsX10_mixed (va_wsS RX10 68 yX10_isKind wsX10_isKind) := goodIn_app (goodIn_of _ (by decide +kernel)) ggX10_mixed_X10_isKind
set_option maxRecDepth 20000 in
theorem ggX10_mixed_X10_in : GoodIn wsX10_mixed wsX10_in := goodIn_r _ [10] (by decide +kernel) (by decide +kernel)
set_option maxRecDepth 20000 in
theorem gX10_mixed_X10_in : GoodIn wsX10_mixed (va_wsS RX10 32 yX10_in wsX10_in) := goodIn_app (goodIn_of _ (by decide +kernel)) ggX10_mixed_X10_in
set_option maxRecDepth 20000 in
theorem ggX10_mixed_X10_mixes : GoodIn wsX10_mixed wsX10_mixes := goodIn_r _ [14, 15, 16, 17, 18, 6, 19, 20, 21, 22, 23, 24, 25, 26, 27, 28, 29, 30, 31, 32, 33, 34, 35, 36, 37, 38, 39, 40, 41, 42] (by decide +kernel) (by decide +kernel)
set_option maxRecDepth 20000 in
theorem gX10_mixed_X10_mixes : GoodIn wsX10_mixed (wsV RX10 192 RX10 yX10_mixes wsX10_mixes) := goodIn_app (goodIn_of _ (by decide +kernel)) ggX10_mixed_X10_mixes
theorem dX10_mixed_0 : decode cX10_mixed 0 = .ok (.iload_n 1, 1) := by decide +kernel
theorem dX10_mixed_1 : decode cX10_mixed 1 = .ok (.invokestatic 68, 3) := by decide +kernel
theorem dX10_mixed_4 : decode cX10_mixed 4 = .ok (.ifCond .eq 35, 3) := by decide +kernel
theorem dX10_mixed_7 : decode cX10_mixed 7 = .ok (.iload_n 2, 1) := by decide +kernel
theorem dX10_mixed_8 : decode cX10_mixed 8 = .ok (.invokestatic 68, 3) := by decide +kernel
theorem dX10_mixed_11 : decode cX10_mixed 11 = .ok (.ifCond .eq 28, 3) := by decide +kernel
theorem dX10_mixed_14 : decode cX10_mixed 14 = .ok (.iload_n 3, 1) := by decide +kernel
theorem dX10_mixed_15 : decode cX10_mixed 15 = .ok (.iconst 0, 1) := by decide +kernel
theorem dX10_mixed_16 : decode cX10_mixed 16 = .ok (.ldc 188, 2) := by decide +kernel
theorem dX10_mixed_18 : decode cX10_mixed 18 = .ok (.invokestatic 32, 3) := by decide +kernel
theorem dX10_mixed_21 : decode cX10_mixed 21 = .ok (.ifCond .eq 18, 3) := by decide +kernel
theorem dX10_mixed_24 : decode cX10_mixed 24 = .ok (.iload 4, 2) := by decide +kernel
theorem dX10_mixed_26 : decode cX10_mixed 26 = .ok (.iconst 0, 1) := by decide +kernel
theorem dX10_mixed_27 : decode cX10_mixed 27 = .ok (.iconst 2, 1) := by decide +kernel
theorem dX10_mixed_28 : decode cX10_mixed 28 = .ok (.invokestatic 32, 3) := by decide +kernel
theorem dX10_mixed_31 : decode cX10_mixed 31 = .ok (.ifCond .eq 8, 3) := by decide +kernel
theorem dX10_mixed_34 : decode cX10_mixed 34 = .ok (.iload_n 1, 1) := by decide +kernel
theorem dX10_mixed_35 : decode cX10_mixed 35 = .ok (.iload_n 2, 1) := by decide +kernel
theorem dX10_mixed_36 : decode cX10_mixed 36 = .ok (.if_icmp .ne 6, 3) := by decide +kernel
theorem dX10_mixed_39 : decode cX10_mixed 39 = .ok (.ldc 40, 2) := by decide +kernel
theorem dX10_mixed_41 : decode cX10_mixed 41 = .ok (.ireturn, 1) := by decide +kernel
theorem dX10_mixed_42 : decode cX10_mixed 42 = .ok (.iconst 0, 1) := by decide +kernel
theorem dX10_mixed_43 : decode cX10_mixed 43 = .ok (.istore 5, 2) := by decide +kernel
theorem dX10_mixed_45 : decode cX10_mixed 45 = .ok (.ldc 67, 2) := by decide +kernel
theorem dX10_mixed_47 : decode cX10_mixed 47 = .ok (.istore 6, 2) := by decide +kernel
theorem dX10_mixed_49 : decode cX10_mixed 49 = .ok (.ldc 67, 2) := by decide +kernel
theorem dX10_mixed_51 : decode cX10_mixed 51 = .ok (.istore 7, 2) := by decide +kernel
theorem dX10_mixed_53 : decode cX10_mixed 53 = .ok (.iconst 0, 1) := by decide +kernel
theorem dX10_mixed_54 : decode cX10_mixed 54 = .ok (.istore 8, 2) := by decide +kernel
theorem dX10_mixed_56 : decode cX10_mixed 56 = .ok (.iload 8, 2) := by decide +kernel
theorem dX10_mixed_58 : decode cX10_mixed 58 = .ok (.bipush 60, 2) := by decide +kernel
theorem dX10_mixed_60 : decode cX10_mixed 60 = .ok (.if_icmp .gt 65, 3) := by decide +kernel
theorem dX10_mixed_63 : decode cX10_mixed 63 = .ok (.iconst 0, 1) := by decide +kernel
theorem dX10_mixed_64 : decode cX10_mixed 64 = .ok (.istore 9, 2) := by decide +kernel
theorem dX10_mixed_66 : decode cX10_mixed 66 = .ok (.iload 9, 2) := by decide +kernel
theorem dX10_mixed_68 : decode cX10_mixed 68 = .ok (.iload 8, 2) := by decide +kernel
theorem dX10_mixed_70 : decode cX10_mixed 70 = .ok (.if_icmp .gt 49, 3) := by decide +kernel
theorem dX10_mixed_73 : decode cX10_mixed 73 = .ok (.aload_n 0, 1) := by decide +kernel
theorem dX10_mixed_74 : decode cX10_mixed 74 = .ok (.iload_n 1, 1) := by decide +kernel
theorem dX10_mixed_75 : decode cX10_mixed 75 = .ok (.iload 9, 2) := by decide +kernel
theorem dX10_mixed_77 : decode cX10_mixed 77 = .ok (.iload_n 2, 1) := by decide +kernel
theorem dX10_mixed_78 : decode cX10_mixed 78 = .ok (.iload 8, 2) := by decide +kernel
theorem dX10_mixed_80 : decode cX10_mixed 80 = .ok (.iload 9, 2) := by decide +kernel
theorem dX10_mixed_82 : decode cX10_mixed 82 = .ok (.isub, 1) := by decide +kernel
theorem dX10_mixed_83 : decode cX10_mixed 83 = .ok (.iload_n 3, 1) := by decide +kernel
theorem dX10_mixed_84 : decode cX10_mixed 84 = .ok (.invokevirtual 192, 3) := by decide +kernel
theorem dX10_mixed_87 : decode cX10_mixed 87 = .ok (.ifCond .eq 26, 3) := by decide +kernel
theorem dX10_mixed_90 : decode cX10_mixed 90 = .ok (.iinc 5 1, 3) := by decide +kernel
theorem dX10_mixed_93 : decode cX10_mixed 93 = .ok (.iload 6, 2) := by decide +kernel
theorem dX10_mixed_95 : decode cX10_mixed 95 = .ok (.ldc 67, 2) := by decide +kernel
theorem dX10_mixed_97 : decode cX10_mixed 97 = .ok (.if_icmp .ne 8, 3) := by decide +kernel
theorem dX10_mixed_100 : decode cX10_mixed 100 = .ok (.iload 8, 2) := by decide +kernel
theorem dX10_mixed_102 : decode cX10_mixed 102 = .ok (.goto 5, 3) := by decide +kernel
theorem dX10_mixed_105 : decode cX10_mixed 105 = .ok (.iload 6, 2) := by decide +kernel
theorem dX10_mixed_107 : decode cX10_mixed 107 = .ok (.istore 6, 2) := by decide +kernel
theorem dX10_mixed_109 : decode cX10_mixed 109 = .ok (.iload 8, 2) := by decide +kernel
theorem dX10_mixed_111 : decode cX10_mixed 111 = .ok (.istore 7, 2) := by decide +kernel
theorem dX10_mixed_113 : decode cX10_mixed 113 = .ok (.iinc 9 1, 3) := by decide +kernel
theorem dX10_mixed_116 : decode cX10_mixed 116 = .ok (.goto (-50), 3) := by decide +kernel
theorem dX10_mixed_119 : decode cX10_mixed 119 = .ok (.iinc 8 1, 3) := by decide +kernel
theorem dX10_mixed_122 : decode cX10_mixed 122 = .ok (.goto (-66), 3) := by decide +kernel
theorem dX10_mixed_125 : decode cX10_mixed 125 = .ok (.iload 4, 2) := by decide +kernel
theorem dX10_mixed_127 : decode cX10_mixed 127 = .ok (.ifCond .ne 8, 3) := by decide +kernel
theorem dX10_mixed_130 : decode cX10_mixed 130 = .ok (.iload 5, 2) := by decide +kernel
theorem dX10_mixed_132 : decode cX10_mixed 132 = .ok (.goto 16, 3) := by decide +kernel
theorem dX10_mixed_135 : decode cX10_mixed 135 = .ok (.iload 4, 2) := by decide +kernel
theorem dX10_mixed_137 : decode cX10_mixed 137 = .ok (.iconst 1, 1) := by decide +kernel
theorem dX10_mixed_138 : decode cX10_mixed 138 = .ok (.if_icmp .ne 8, 3) := by decide +kernel
theorem dX10_mixed_141 : decode cX10_mixed 141 = .ok (.iload 6, 2) := by decide +kernel
theorem dX10_mixed_143 : decode cX10_mixed 143 = .ok (.goto 5, 3) := by decide +kernel
theorem dX10_mixed_146 : decode cX10_mixed 146 = .ok (.iload 7, 2) := by decide +kernel
theorem dX10_mixed_148 : decode cX10_mixed 148 = .ok (.ireturn, 1) := by decide +kernel
set_option maxRecDepth 20000 in
theorem ggX10_given_X10_of : GoodIn wsX10_given wsX10_of := goodIn_r _ [7, 1, 30, 31, 32, 33, 34, 35, 36, 37, 38, 39, 40, 41, 42, 43, 44] (by decide +kernel) (by decide +kernel)
set_option maxRecDepth 20000 in
theorem gX10_given_X10_of : GoodIn wsX10_given (wsV RX10 96 RX10 yX10_of wsX10_of) := goodIn_app (goodIn_of _ (by decide +kernel)) ggX10_given_X10_of
set_option maxRecDepth 20000 in
theorem ggX10_given_X10_guesses : GoodIn wsX10_given wsX10_guesses := goodIn_r _ [11, 2, 12, 13, 1, 14, 15, 16, 6, 17, 18, 19, 20, 21, 22, 23, 24, 25, 26, 27, 28, 29, 30, 31, 32, 33, 34, 35, 36, 37, 38, 39, 40, 41, 42, 43, 44] (by decide +kernel) (by decide +kernel)
set_option maxRecDepth 20000 in
theorem gX10_given_X10_guesses : GoodIn wsX10_given (wsV RX10 102 RX10 yX10_guesses wsX10_guesses) := goodIn_app (goodIn_of _ (by decide +kernel)) ggX10_given_X10_guesses
theorem dX10_given_0 : decode cX10_given 0 = .ok (.iconst 0, 1) := by decide +kernel
theorem dX10_given_1 : decode cX10_given 1 = .ok (.istore_n 2, 1) := by decide +kernel
theorem dX10_given_2 : decode cX10_given 2 = .ok (.iconst 0, 1) := by decide +kernel
theorem dX10_given_3 : decode cX10_given 3 = .ok (.istore_n 3, 1) := by decide +kernel
theorem dX10_given_4 : decode cX10_given 4 = .ok (.iload_n 3, 1) := by decide +kernel
theorem dX10_given_5 : decode cX10_given 5 = .ok (.aload_n 0, 1) := by decide +kernel
theorem dX10_given_6 : decode cX10_given 6 = .ok (.getfield 7, 3) := by decide +kernel
theorem dX10_given_9 : decode cX10_given 9 = .ok (.bipush 14, 2) := by decide +kernel
theorem dX10_given_11 : decode cX10_given 11 = .ok (.iaload, 1) := by decide +kernel
theorem dX10_given_12 : decode cX10_given 12 = .ok (.if_icmp .ge 60, 3) := by decide +kernel
theorem dX10_given_15 : decode cX10_given 15 = .ok (.aload_n 0, 1) := by decide +kernel
theorem dX10_given_16 : decode cX10_given 16 = .ok (.iload_n 3, 1) := by decide +kernel
theorem dX10_given_17 : decode cX10_given 17 = .ok (.iconst 1, 1) := by decide +kernel
theorem dX10_given_18 : decode cX10_given 18 = .ok (.invokevirtual 96, 3) := by decide +kernel
theorem dX10_given_21 : decode cX10_given 21 = .ok (.iconst 1, 1) := by decide +kernel
theorem dX10_given_22 : decode cX10_given 22 = .ok (.if_icmp .ne 44, 3) := by decide +kernel
theorem dX10_given_25 : decode cX10_given 25 = .ok (.aload_n 0, 1) := by decide +kernel
theorem dX10_given_26 : decode cX10_given 26 = .ok (.aload_n 0, 1) := by decide +kernel
theorem dX10_given_27 : decode cX10_given 27 = .ok (.iload_n 3, 1) := by decide +kernel
theorem dX10_given_28 : decode cX10_given 28 = .ok (.iconst 4, 1) := by decide +kernel
theorem dX10_given_29 : decode cX10_given 29 = .ok (.invokevirtual 96, 3) := by decide +kernel
theorem dX10_given_32 : decode cX10_given 32 = .ok (.aload_n 0, 1) := by decide +kernel
theorem dX10_given_33 : decode cX10_given 33 = .ok (.iload_n 3, 1) := by decide +kernel
theorem dX10_given_34 : decode cX10_given 34 = .ok (.iconst 2, 1) := by decide +kernel
theorem dX10_given_35 : decode cX10_given 35 = .ok (.invokevirtual 96, 3) := by decide +kernel
theorem dX10_given_38 : decode cX10_given 38 = .ok (.iload_n 1, 1) := by decide +kernel
theorem dX10_given_39 : decode cX10_given 39 = .ok (.invokevirtual 102, 3) := by decide +kernel
theorem dX10_given_42 : decode cX10_given 42 = .ok (.istore 4, 2) := by decide +kernel
theorem dX10_given_44 : decode cX10_given 44 = .ok (.iload 4, 2) := by decide +kernel
theorem dX10_given_46 : decode cX10_given 46 = .ok (.ldc 67, 2) := by decide +kernel
theorem dX10_given_48 : decode cX10_given 48 = .ok (.if_icmp .ne 6, 3) := by decide +kernel
theorem dX10_given_51 : decode cX10_given 51 = .ok (.ldc 67, 2) := by decide +kernel
theorem dX10_given_53 : decode cX10_given 53 = .ok (.ireturn, 1) := by decide +kernel
theorem dX10_given_54 : decode cX10_given 54 = .ok (.iload_n 2, 1) := by decide +kernel
theorem dX10_given_55 : decode cX10_given 55 = .ok (.iload 4, 2) := by decide +kernel
theorem dX10_given_57 : decode cX10_given 57 = .ok (.aload_n 0, 1) := by decide +kernel
theorem dX10_given_58 : decode cX10_given 58 = .ok (.iload_n 3, 1) := by decide +kernel
theorem dX10_given_59 : decode cX10_given 59 = .ok (.iconst 3, 1) := by decide +kernel
theorem dX10_given_60 : decode cX10_given 60 = .ok (.invokevirtual 96, 3) := by decide +kernel
theorem dX10_given_63 : decode cX10_given 63 = .ok (.isub, 1) := by decide +kernel
theorem dX10_given_64 : decode cX10_given 64 = .ok (.iadd, 1) := by decide +kernel
theorem dX10_given_65 : decode cX10_given 65 = .ok (.istore_n 2, 1) := by decide +kernel
theorem dX10_given_66 : decode cX10_given 66 = .ok (.iinc 3 1, 3) := by decide +kernel
theorem dX10_given_69 : decode cX10_given 69 = .ok (.goto (-65), 3) := by decide +kernel
theorem dX10_given_72 : decode cX10_given 72 = .ok (.iload_n 2, 1) := by decide +kernel
theorem dX10_given_73 : decode cX10_given 73 = .ok (.ireturn, 1) := by decide +kernel
set_option maxRecDepth 20000 in
theorem ggX10_would_X10_in : GoodIn wsX10_would wsX10_in := goodIn_r _ [7] (by decide +kernel) (by decide +kernel)
set_option maxRecDepth 20000 in
theorem gX10_would_X10_in : GoodIn wsX10_would (va_wsS RX10 32 yX10_in wsX10_in) := goodIn_app (goodIn_of _ (by decide +kernel)) ggX10_would_X10_in
set_option maxRecDepth 20000 in
theorem ggX10_would_X10_given : GoodIn wsX10_would wsX10_given := goodIn_r _ [11, 12, 2, 13, 14, 15, 6, 16, 17, 18, 19, 20, 21, 22, 23, 24, 25, 26, 27, 28, 29, 30, 31, 32, 33, 34, 35, 36, 37, 38, 39, 40, 41, 42, 43, 44, 45, 46, 47, 48, 49, 50, 51, 52, 53] (by decide +kernel) (by decide +kernel)
set_option maxRecDepth 20000 in
theorem gX10_would_X10_given : GoodIn wsX10_would (wsV RX10 196 RX10 yX10_given wsX10_given) := goodIn_app (goodIn_of _ (by decide +kernel)) ggX10_would_X10_given
theorem dX10_would_0 : decode cX10_would 0 = .ok (.iload_n 1, 1) := by decide +kernel
theorem dX10_would_1 : decode cX10_would 1 = .ok (.iconst 0, 1) := by decide +kernel
theorem dX10_would_2 : decode cX10_would 2 = .ok (.iconst 3, 1) := by decide +kernel
theorem dX10_would_3 : decode cX10_would 3 = .ok (.invokestatic 32, 3) := by decide +kernel
theorem dX10_would_6 : decode cX10_would 6 = .ok (.ifCond .ne 6, 3) := by decide +kernel
theorem dX10_would_9 : decode cX10_would 9 = .ok (.ldc 40, 2) := by decide +kernel
theorem dX10_would_11 : decode cX10_would 11 = .ok (.ireturn, 1) := by decide +kernel
theorem dX10_would_12 : decode cX10_would 12 = .ok (.aload_n 0, 1) := by decide +kernel
theorem dX10_would_13 : decode cX10_would 13 = .ok (.iload_n 1, 1) := by decide +kernel
theorem dX10_would_14 : decode cX10_would 14 = .ok (.invokevirtual 196, 3) := by decide +kernel
theorem dX10_would_17 : decode cX10_would 17 = .ok (.istore_n 2, 1) := by decide +kernel
theorem dX10_would_18 : decode cX10_would 18 = .ok (.iload_n 2, 1) := by decide +kernel
theorem dX10_would_19 : decode cX10_would 19 = .ok (.ldc 67, 2) := by decide +kernel
theorem dX10_would_21 : decode cX10_would 21 = .ok (.if_icmp .ne 8, 3) := by decide +kernel
theorem dX10_would_24 : decode cX10_would 24 = .ok (.ldc 67, 2) := by decide +kernel
theorem dX10_would_26 : decode cX10_would 26 = .ok (.goto 7, 3) := by decide +kernel
theorem dX10_would_29 : decode cX10_would 29 = .ok (.ldc 115, 2) := by decide +kernel
theorem dX10_would_31 : decode cX10_would 31 = .ok (.iload_n 2, 1) := by decide +kernel
theorem dX10_would_32 : decode cX10_would 32 = .ok (.iadd, 1) := by decide +kernel
theorem dX10_would_33 : decode cX10_would 33 = .ok (.ireturn, 1) := by decide +kernel
set_option maxRecDepth 20000 in
theorem ggX10_fairest_X10_given : GoodIn wsX10_fairest wsX10_given := goodIn_r _ [6, 7, 1, 8, 9, 10, 5, 11, 12, 13, 14, 15, 16, 17, 18, 19, 20, 21, 22, 23, 24, 25, 26, 27, 28, 29, 30, 31, 32, 33, 37, 38, 39, 40, 41, 42, 43, 44, 45, 46, 47, 48, 49, 50, 51] (by decide +kernel) (by decide +kernel)
set_option maxRecDepth 20000 in
theorem gX10_fairest_X10_given : GoodIn wsX10_fairest (wsV RX10 196 RX10 yX10_given wsX10_given) := goodIn_app (goodIn_of _ (by decide +kernel)) ggX10_fairest_X10_given
set_option maxRecDepth 20000 in
theorem ggX10_fairest_X10_far : GoodIn wsX10_fairest wsX10_far := goodIn_r _ [36] (by decide +kernel) (by decide +kernel)
set_option maxRecDepth 20000 in
theorem gX10_fairest_X10_far : GoodIn wsX10_fairest (va_wsS RX10 109 yX10_far wsX10_far) := goodIn_app (goodIn_of _ (by decide +kernel)) ggX10_fairest_X10_far
theorem dX10_fairest_0 : decode cX10_fairest 0 = .ok (.ldc 67, 2) := by decide +kernel
theorem dX10_fairest_2 : decode cX10_fairest 2 = .ok (.istore_n 1, 1) := by decide +kernel
theorem dX10_fairest_3 : decode cX10_fairest 3 = .ok (.iconst 0, 1) := by decide +kernel
theorem dX10_fairest_4 : decode cX10_fairest 4 = .ok (.istore_n 2, 1) := by decide +kernel
theorem dX10_fairest_5 : decode cX10_fairest 5 = .ok (.iload_n 2, 1) := by decide +kernel
theorem dX10_fairest_6 : decode cX10_fairest 6 = .ok (.iconst 4, 1) := by decide +kernel
theorem dX10_fairest_7 : decode cX10_fairest 7 = .ok (.if_icmp .ge 53, 3) := by decide +kernel
theorem dX10_fairest_10 : decode cX10_fairest 10 = .ok (.aload_n 0, 1) := by decide +kernel
theorem dX10_fairest_11 : decode cX10_fairest 11 = .ok (.iload_n 2, 1) := by decide +kernel
theorem dX10_fairest_12 : decode cX10_fairest 12 = .ok (.invokevirtual 196, 3) := by decide +kernel
theorem dX10_fairest_15 : decode cX10_fairest 15 = .ok (.istore_n 3, 1) := by decide +kernel
theorem dX10_fairest_16 : decode cX10_fairest 16 = .ok (.iload_n 3, 1) := by decide +kernel
theorem dX10_fairest_17 : decode cX10_fairest 17 = .ok (.ldc 67, 2) := by decide +kernel
theorem dX10_fairest_19 : decode cX10_fairest 19 = .ok (.if_icmp .ne 6, 3) := by decide +kernel
theorem dX10_fairest_22 : decode cX10_fairest 22 = .ok (.ldc 67, 2) := by decide +kernel
theorem dX10_fairest_24 : decode cX10_fairest 24 = .ok (.ireturn, 1) := by decide +kernel
theorem dX10_fairest_25 : decode cX10_fairest 25 = .ok (.iload_n 1, 1) := by decide +kernel
theorem dX10_fairest_26 : decode cX10_fairest 26 = .ok (.ldc 67, 2) := by decide +kernel
theorem dX10_fairest_28 : decode cX10_fairest 28 = .ok (.if_icmp .eq 20, 3) := by decide +kernel
theorem dX10_fairest_31 : decode cX10_fairest 31 = .ok (.iload_n 3, 1) := by decide +kernel
theorem dX10_fairest_32 : decode cX10_fairest 32 = .ok (.iconst 0, 1) := by decide +kernel
theorem dX10_fairest_33 : decode cX10_fairest 33 = .ok (.invokestatic 109, 3) := by decide +kernel
theorem dX10_fairest_36 : decode cX10_fairest 36 = .ok (.aload_n 0, 1) := by decide +kernel
theorem dX10_fairest_37 : decode cX10_fairest 37 = .ok (.iload_n 1, 1) := by decide +kernel
theorem dX10_fairest_38 : decode cX10_fairest 38 = .ok (.invokevirtual 196, 3) := by decide +kernel
theorem dX10_fairest_41 : decode cX10_fairest 41 = .ok (.iconst 0, 1) := by decide +kernel
theorem dX10_fairest_42 : decode cX10_fairest 42 = .ok (.invokestatic 109, 3) := by decide +kernel
theorem dX10_fairest_45 : decode cX10_fairest 45 = .ok (.if_icmp .ge 7, 3) := by decide +kernel
theorem dX10_fairest_48 : decode cX10_fairest 48 = .ok (.iload_n 2, 1) := by decide +kernel
theorem dX10_fairest_49 : decode cX10_fairest 49 = .ok (.goto 4, 3) := by decide +kernel
theorem dX10_fairest_52 : decode cX10_fairest 52 = .ok (.iload_n 1, 1) := by decide +kernel
theorem dX10_fairest_53 : decode cX10_fairest 53 = .ok (.istore_n 1, 1) := by decide +kernel
theorem dX10_fairest_54 : decode cX10_fairest 54 = .ok (.iinc 2 1, 3) := by decide +kernel
theorem dX10_fairest_57 : decode cX10_fairest 57 = .ok (.goto (-52), 3) := by decide +kernel
theorem dX10_fairest_60 : decode cX10_fairest 60 = .ok (.iload_n 1, 1) := by decide +kernel
theorem dX10_fairest_61 : decode cX10_fairest 61 = .ok (.ireturn, 1) := by decide +kernel
set_option maxRecDepth 20000 in
theorem ggX10_soldOut_X10_isPrize : GoodIn wsX10_soldOut wsX10_isPrize := goodIn_r _ [7, 8, 9, 10, 6, 11, 20, 21, 22, 23, 24, 25, 26, 27, 28, 29, 30, 31, 32, 33, 34] (by decide +kernel) (by decide +kernel)
set_option maxRecDepth 20000 in
theorem gX10_soldOut_X10_isPrize : GoodIn wsX10_soldOut (wsV RX10 120 RX10 yX10_isPrize wsX10_isPrize) := goodIn_app (goodIn_of _ (by decide +kernel)) ggX10_soldOut_X10_isPrize
set_option maxRecDepth 20000 in
theorem ggX10_soldOut_X10_priced : GoodIn wsX10_soldOut wsX10_priced := goodIn_r _ [15, 8, 20, 21, 22, 23, 24, 25, 26, 27, 28, 29, 30, 31, 32, 33, 34] (by decide +kernel) (by decide +kernel)
set_option maxRecDepth 20000 in
theorem gX10_soldOut_X10_priced : GoodIn wsX10_soldOut (wsV RX10 123 RX10 yX10_priced wsX10_priced) := goodIn_app (goodIn_of _ (by decide +kernel)) ggX10_soldOut_X10_priced
set_option maxRecDepth 20000 in
theorem ggX10_soldOut_X10_stocked : GoodIn wsX10_soldOut wsX10_stocked := goodIn_r _ [18, 19] (by decide +kernel) (by decide +kernel)
set_option maxRecDepth 20000 in
theorem gX10_soldOut_X10_stocked : GoodIn wsX10_soldOut (va_wsS RX10 128 yX10_stocked wsX10_stocked) := goodIn_app (goodIn_of _ (by decide +kernel)) ggX10_soldOut_X10_stocked
theorem dX10_soldOut_0 : decode cX10_soldOut 0 = .ok (.aload_n 0, 1) := by decide +kernel
theorem dX10_soldOut_1 : decode cX10_soldOut 1 = .ok (.iload_n 1, 1) := by decide +kernel
theorem dX10_soldOut_2 : decode cX10_soldOut 2 = .ok (.invokevirtual 120, 3) := by decide +kernel
theorem dX10_soldOut_5 : decode cX10_soldOut 5 = .ok (.ifCond .ne 6, 3) := by decide +kernel
theorem dX10_soldOut_8 : decode cX10_soldOut 8 = .ok (.ldc 40, 2) := by decide +kernel
theorem dX10_soldOut_10 : decode cX10_soldOut 10 = .ok (.ireturn, 1) := by decide +kernel
theorem dX10_soldOut_11 : decode cX10_soldOut 11 = .ok (.aload_n 0, 1) := by decide +kernel
theorem dX10_soldOut_12 : decode cX10_soldOut 12 = .ok (.iload_n 1, 1) := by decide +kernel
theorem dX10_soldOut_13 : decode cX10_soldOut 13 = .ok (.iconst 2, 1) := by decide +kernel
theorem dX10_soldOut_14 : decode cX10_soldOut 14 = .ok (.invokevirtual 123, 3) := by decide +kernel
theorem dX10_soldOut_17 : decode cX10_soldOut 17 = .ok (.istore_n 2, 1) := by decide +kernel
theorem dX10_soldOut_18 : decode cX10_soldOut 18 = .ok (.aload_n 0, 1) := by decide +kernel
theorem dX10_soldOut_19 : decode cX10_soldOut 19 = .ok (.iload_n 1, 1) := by decide +kernel
theorem dX10_soldOut_20 : decode cX10_soldOut 20 = .ok (.iconst 5, 1) := by decide +kernel
theorem dX10_soldOut_21 : decode cX10_soldOut 21 = .ok (.invokevirtual 123, 3) := by decide +kernel
theorem dX10_soldOut_24 : decode cX10_soldOut 24 = .ok (.istore_n 3, 1) := by decide +kernel
theorem dX10_soldOut_25 : decode cX10_soldOut 25 = .ok (.aload_n 0, 1) := by decide +kernel
theorem dX10_soldOut_26 : decode cX10_soldOut 26 = .ok (.iload_n 1, 1) := by decide +kernel
theorem dX10_soldOut_27 : decode cX10_soldOut 27 = .ok (.iconst 4, 1) := by decide +kernel
theorem dX10_soldOut_28 : decode cX10_soldOut 28 = .ok (.invokevirtual 123, 3) := by decide +kernel
theorem dX10_soldOut_31 : decode cX10_soldOut 31 = .ok (.aload_n 0, 1) := by decide +kernel
theorem dX10_soldOut_32 : decode cX10_soldOut 32 = .ok (.iload_n 1, 1) := by decide +kernel
theorem dX10_soldOut_33 : decode cX10_soldOut 33 = .ok (.iconst 1, 1) := by decide +kernel
theorem dX10_soldOut_34 : decode cX10_soldOut 34 = .ok (.invokevirtual 123, 3) := by decide +kernel
theorem dX10_soldOut_37 : decode cX10_soldOut 37 = .ok (.idiv, 1) := by decide +kernel
theorem dX10_soldOut_38 : decode cX10_soldOut 38 = .ok (.istore 4, 2) := by decide +kernel
theorem dX10_soldOut_40 : decode cX10_soldOut 40 = .ok (.iconst 0, 1) := by decide +kernel
theorem dX10_soldOut_41 : decode cX10_soldOut 41 = .ok (.istore 5, 2) := by decide +kernel
theorem dX10_soldOut_43 : decode cX10_soldOut 43 = .ok (.iload 5, 2) := by decide +kernel
theorem dX10_soldOut_45 : decode cX10_soldOut 45 = .ok (.sipush 1000, 3) := by decide +kernel
theorem dX10_soldOut_48 : decode cX10_soldOut 48 = .ok (.if_icmp .ge 51, 3) := by decide +kernel
theorem dX10_soldOut_51 : decode cX10_soldOut 51 = .ok (.iload_n 2, 1) := by decide +kernel
theorem dX10_soldOut_52 : decode cX10_soldOut 52 = .ok (.ifCond .ne 6, 3) := by decide +kernel
theorem dX10_soldOut_55 : decode cX10_soldOut 55 = .ok (.iload 5, 2) := by decide +kernel
theorem dX10_soldOut_57 : decode cX10_soldOut 57 = .ok (.ireturn, 1) := by decide +kernel
theorem dX10_soldOut_58 : decode cX10_soldOut 58 = .ok (.iload_n 3, 1) := by decide +kernel
theorem dX10_soldOut_59 : decode cX10_soldOut 59 = .ok (.aload_n 0, 1) := by decide +kernel
theorem dX10_soldOut_60 : decode cX10_soldOut 60 = .ok (.iload_n 1, 1) := by decide +kernel
theorem dX10_soldOut_61 : decode cX10_soldOut 61 = .ok (.iconst 1, 1) := by decide +kernel
theorem dX10_soldOut_62 : decode cX10_soldOut 62 = .ok (.invokevirtual 123, 3) := by decide +kernel
theorem dX10_soldOut_65 : decode cX10_soldOut 65 = .ok (.iadd, 1) := by decide +kernel
theorem dX10_soldOut_66 : decode cX10_soldOut 66 = .ok (.istore_n 3, 1) := by decide +kernel
theorem dX10_soldOut_67 : decode cX10_soldOut 67 = .ok (.iload_n 2, 1) := by decide +kernel
theorem dX10_soldOut_68 : decode cX10_soldOut 68 = .ok (.iconst 1, 1) := by decide +kernel
theorem dX10_soldOut_69 : decode cX10_soldOut 69 = .ok (.isub, 1) := by decide +kernel
theorem dX10_soldOut_70 : decode cX10_soldOut 70 = .ok (.iload_n 3, 1) := by decide +kernel
theorem dX10_soldOut_71 : decode cX10_soldOut 71 = .ok (.aload_n 0, 1) := by decide +kernel
theorem dX10_soldOut_72 : decode cX10_soldOut 72 = .ok (.iload_n 1, 1) := by decide +kernel
theorem dX10_soldOut_73 : decode cX10_soldOut 73 = .ok (.iconst 3, 1) := by decide +kernel
theorem dX10_soldOut_74 : decode cX10_soldOut 74 = .ok (.invokevirtual 123, 3) := by decide +kernel
theorem dX10_soldOut_77 : decode cX10_soldOut 77 = .ok (.idiv, 1) := by decide +kernel
theorem dX10_soldOut_78 : decode cX10_soldOut 78 = .ok (.iload 4, 2) := by decide +kernel
theorem dX10_soldOut_80 : decode cX10_soldOut 80 = .ok (.invokestatic 128, 3) := by decide +kernel
theorem dX10_soldOut_83 : decode cX10_soldOut 83 = .ok (.istore_n 2, 1) := by decide +kernel
theorem dX10_soldOut_84 : decode cX10_soldOut 84 = .ok (.iload_n 3, 1) := by decide +kernel
theorem dX10_soldOut_85 : decode cX10_soldOut 85 = .ok (.aload_n 0, 1) := by decide +kernel
theorem dX10_soldOut_86 : decode cX10_soldOut 86 = .ok (.iload_n 1, 1) := by decide +kernel
theorem dX10_soldOut_87 : decode cX10_soldOut 87 = .ok (.iconst 3, 1) := by decide +kernel
theorem dX10_soldOut_88 : decode cX10_soldOut 88 = .ok (.invokevirtual 123, 3) := by decide +kernel
theorem dX10_soldOut_91 : decode cX10_soldOut 91 = .ok (.irem, 1) := by decide +kernel
theorem dX10_soldOut_92 : decode cX10_soldOut 92 = .ok (.istore_n 3, 1) := by decide +kernel
theorem dX10_soldOut_93 : decode cX10_soldOut 93 = .ok (.iinc 5 1, 3) := by decide +kernel
theorem dX10_soldOut_96 : decode cX10_soldOut 96 = .ok (.goto (-53), 3) := by decide +kernel
theorem dX10_soldOut_99 : decode cX10_soldOut 99 = .ok (.ldc 67, 2) := by decide +kernel
theorem dX10_soldOut_101 : decode cX10_soldOut 101 = .ok (.ireturn, 1) := by decide +kernel
set_option maxRecDepth 20000 in
theorem ggX10_ahead_X10_priced : GoodIn wsX10_ahead wsX10_priced := goodIn_r _ [6, 1, 7, 8, 9, 10, 11, 12, 13, 14, 15, 16, 17, 18, 19, 20, 21] (by decide +kernel) (by decide +kernel)
set_option maxRecDepth 20000 in
theorem gX10_ahead_X10_priced : GoodIn wsX10_ahead (wsV RX10 123 RX10 yX10_priced wsX10_priced) := goodIn_app (goodIn_of _ (by decide +kernel)) ggX10_ahead_X10_priced
theorem dX10_ahead_0 : decode cX10_ahead 0 = .ok (.iconst 0, 1) := by decide +kernel
theorem dX10_ahead_1 : decode cX10_ahead 1 = .ok (.istore_n 2, 1) := by decide +kernel
theorem dX10_ahead_2 : decode cX10_ahead 2 = .ok (.iconst 0, 1) := by decide +kernel
theorem dX10_ahead_3 : decode cX10_ahead 3 = .ok (.istore_n 3, 1) := by decide +kernel
theorem dX10_ahead_4 : decode cX10_ahead 4 = .ok (.iload_n 3, 1) := by decide +kernel
theorem dX10_ahead_5 : decode cX10_ahead 5 = .ok (.aload_n 0, 1) := by decide +kernel
theorem dX10_ahead_6 : decode cX10_ahead 6 = .ok (.getfield 7, 3) := by decide +kernel
theorem dX10_ahead_9 : decode cX10_ahead 9 = .ok (.bipush 15, 2) := by decide +kernel
theorem dX10_ahead_11 : decode cX10_ahead 11 = .ok (.iaload, 1) := by decide +kernel
theorem dX10_ahead_12 : decode cX10_ahead 12 = .ok (.if_icmp .ge 52, 3) := by decide +kernel
theorem dX10_ahead_15 : decode cX10_ahead 15 = .ok (.iload_n 2, 1) := by decide +kernel
theorem dX10_ahead_16 : decode cX10_ahead 16 = .ok (.aload_n 0, 1) := by decide +kernel
theorem dX10_ahead_17 : decode cX10_ahead 17 = .ok (.iload_n 3, 1) := by decide +kernel
theorem dX10_ahead_18 : decode cX10_ahead 18 = .ok (.iconst 0, 1) := by decide +kernel
theorem dX10_ahead_19 : decode cX10_ahead 19 = .ok (.invokevirtual 123, 3) := by decide +kernel
theorem dX10_ahead_22 : decode cX10_ahead 22 = .ok (.aload_n 0, 1) := by decide +kernel
theorem dX10_ahead_23 : decode cX10_ahead 23 = .ok (.iload_n 1, 1) := by decide +kernel
theorem dX10_ahead_24 : decode cX10_ahead 24 = .ok (.iconst 0, 1) := by decide +kernel
theorem dX10_ahead_25 : decode cX10_ahead 25 = .ok (.invokevirtual 123, 3) := by decide +kernel
theorem dX10_ahead_28 : decode cX10_ahead 28 = .ok (.if_icmp .lt 23, 3) := by decide +kernel
theorem dX10_ahead_31 : decode cX10_ahead 31 = .ok (.aload_n 0, 1) := by decide +kernel
theorem dX10_ahead_32 : decode cX10_ahead 32 = .ok (.iload_n 3, 1) := by decide +kernel
theorem dX10_ahead_33 : decode cX10_ahead 33 = .ok (.iconst 0, 1) := by decide +kernel
theorem dX10_ahead_34 : decode cX10_ahead 34 = .ok (.invokevirtual 123, 3) := by decide +kernel
theorem dX10_ahead_37 : decode cX10_ahead 37 = .ok (.aload_n 0, 1) := by decide +kernel
theorem dX10_ahead_38 : decode cX10_ahead 38 = .ok (.iload_n 1, 1) := by decide +kernel
theorem dX10_ahead_39 : decode cX10_ahead 39 = .ok (.iconst 0, 1) := by decide +kernel
theorem dX10_ahead_40 : decode cX10_ahead 40 = .ok (.invokevirtual 123, 3) := by decide +kernel
theorem dX10_ahead_43 : decode cX10_ahead 43 = .ok (.if_icmp .ne 12, 3) := by decide +kernel
theorem dX10_ahead_46 : decode cX10_ahead 46 = .ok (.iload_n 3, 1) := by decide +kernel
theorem dX10_ahead_47 : decode cX10_ahead 47 = .ok (.iload_n 1, 1) := by decide +kernel
theorem dX10_ahead_48 : decode cX10_ahead 48 = .ok (.if_icmp .ge 7, 3) := by decide +kernel
theorem dX10_ahead_51 : decode cX10_ahead 51 = .ok (.iconst 1, 1) := by decide +kernel
theorem dX10_ahead_52 : decode cX10_ahead 52 = .ok (.goto 4, 3) := by decide +kernel
theorem dX10_ahead_55 : decode cX10_ahead 55 = .ok (.iconst 0, 1) := by decide +kernel
theorem dX10_ahead_56 : decode cX10_ahead 56 = .ok (.iadd, 1) := by decide +kernel
theorem dX10_ahead_57 : decode cX10_ahead 57 = .ok (.istore_n 2, 1) := by decide +kernel
theorem dX10_ahead_58 : decode cX10_ahead 58 = .ok (.iinc 3 1, 3) := by decide +kernel
theorem dX10_ahead_61 : decode cX10_ahead 61 = .ok (.goto (-57), 3) := by decide +kernel
theorem dX10_ahead_64 : decode cX10_ahead 64 = .ok (.iload_n 2, 1) := by decide +kernel
theorem dX10_ahead_65 : decode cX10_ahead 65 = .ok (.ireturn, 1) := by decide +kernel
set_option maxRecDepth 20000 in
theorem ggX10_shop_X10_isCustomer : GoodIn wsX10_shop wsX10_isCustomer := goodIn_r _ [7, 2, 8, 9, 6, 10, 23, 24, 25, 26, 27, 28, 29, 30, 31, 32, 33, 34, 35, 36, 37] (by decide +kernel) (by decide +kernel)
set_option maxRecDepth 20000 in
theorem gX10_shop_X10_isCustomer : GoodIn wsX10_shop (wsV RX10 93 RX10 yX10_isCustomer wsX10_isCustomer) := goodIn_app (goodIn_of _ (by decide +kernel)) ggX10_shop_X10_isCustomer
set_option maxRecDepth 20000 in
theorem ggX10_shop_X10_in : GoodIn wsX10_shop wsX10_in := goodIn_r _ [10] (by decide +kernel) (by decide +kernel)
set_option maxRecDepth 20000 in
theorem gX10_shop_X10_in : GoodIn wsX10_shop (va_wsS RX10 32 yX10_in wsX10_in) := goodIn_app (goodIn_of _ (by decide +kernel)) ggX10_shop_X10_in
set_option maxRecDepth 20000 in
theorem ggX10_shop_X10_of : GoodIn wsX10_shop wsX10_of := goodIn_r _ [14, 2, 23, 24, 25, 26, 27, 28, 29, 30, 31, 32, 33, 34, 35, 36, 37] (by decide +kernel) (by decide +kernel)
set_option maxRecDepth 20000 in
theorem gX10_shop_X10_of : GoodIn wsX10_shop (wsV RX10 96 RX10 yX10_of wsX10_of) := goodIn_app (goodIn_of _ (by decide +kernel)) ggX10_shop_X10_of
set_option maxRecDepth 20000 in
theorem ggX10_shop_X10_ahead : GoodIn wsX10_shop wsX10_ahead := goodIn_r _ [18, 2, 19, 20, 21, 6, 22, 23, 24, 25, 26, 27, 28, 29, 30, 31, 32, 33, 34, 35, 36, 37] (by decide +kernel) (by decide +kernel)
set_option maxRecDepth 20000 in
theorem gX10_shop_X10_ahead : GoodIn wsX10_shop (wsV RX10 199 RX10 yX10_ahead wsX10_ahead) := goodIn_app (goodIn_of _ (by decide +kernel)) ggX10_shop_X10_ahead
set_option maxRecDepth 20000 in
theorem ggX10_shop_X10_priced : GoodIn wsX10_shop wsX10_priced := goodIn_r _ [22, 2, 23, 24, 25, 26, 27, 28, 29, 30, 31, 32, 33, 34, 35, 36, 37] (by decide +kernel) (by decide +kernel)
set_option maxRecDepth 20000 in
theorem gX10_shop_X10_priced : GoodIn wsX10_shop (wsV RX10 123 RX10 yX10_priced wsX10_priced) := goodIn_app (goodIn_of _ (by decide +kernel)) ggX10_shop_X10_priced
theorem dX10_shop_0 : decode cX10_shop 0 = .ok (.aload_n 0, 1) := by decide +kernel
theorem dX10_shop_1 : decode cX10_shop 1 = .ok (.iload_n 1, 1) := by decide +kernel
