theorem dL_holds_41 : decode cL_holds 41 = .ok (.iconst 1, 1) := by decide +kernel
theorem dL_holds_42 : decode cL_holds 42 = .ok (.invokevirtual 26, 3) := by decide +kernel
theorem dL_holds_45 : decode cL_holds 45 = .ok (.ifCond .ge 7, 3) := by decide +kernel
theorem dL_holds_48 : decode cL_holds 48 = .ok (.iconst 0, 1) := by decide +kernel
theorem dL_holds_49 : decode cL_holds 49 = .ok (.goto 4, 3) := by decide +kernel
theorem dL_holds_52 : decode cL_holds 52 = .ok (.iconst 1, 1) := by decide +kernel
theorem dL_holds_53 : decode cL_holds 53 = .ok (.iadd, 1) := by decide +kernel
theorem dL_holds_54 : decode cL_holds 54 = .ok (.istore_n 3, 1) := by decide +kernel
theorem dL_holds_55 : decode cL_holds 55 = .ok (.aload_n 0, 1) := by decide +kernel
theorem dL_holds_56 : decode cL_holds 56 = .ok (.iload 5, 2) := by decide +kernel
theorem dL_holds_58 : decode cL_holds 58 = .ok (.iconst 0, 1) := by decide +kernel
theorem dL_holds_59 : decode cL_holds 59 = .ok (.invokevirtual 26, 3) := by decide +kernel
theorem dL_holds_62 : decode cL_holds 62 = .ok (.ifCond .lt 67, 3) := by decide +kernel
theorem dL_holds_65 : decode cL_holds 65 = .ok (.aload_n 0, 1) := by decide +kernel
theorem dL_holds_66 : decode cL_holds 66 = .ok (.iload 5, 2) := by decide +kernel
theorem dL_holds_68 : decode cL_holds 68 = .ok (.iconst 1, 1) := by decide +kernel
theorem dL_holds_69 : decode cL_holds 69 = .ok (.invokevirtual 30, 3) := by decide +kernel
theorem dL_holds_72 : decode cL_holds 72 = .ok (.ifCond .lt 57, 3) := by decide +kernel
theorem dL_holds_75 : decode cL_holds 75 = .ok (.aload_n 0, 1) := by decide +kernel
theorem dL_holds_76 : decode cL_holds 76 = .ok (.iload 5, 2) := by decide +kernel
theorem dL_holds_78 : decode cL_holds 78 = .ok (.iconst 1, 1) := by decide +kernel
theorem dL_holds_79 : decode cL_holds 79 = .ok (.invokevirtual 30, 3) := by decide +kernel
theorem dL_holds_82 : decode cL_holds 82 = .ok (.aload_n 0, 1) := by decide +kernel
theorem dL_holds_83 : decode cL_holds 83 = .ok (.iload 5, 2) := by decide +kernel
theorem dL_holds_85 : decode cL_holds 85 = .ok (.iconst 0, 1) := by decide +kernel
theorem dL_holds_86 : decode cL_holds 86 = .ok (.invokevirtual 26, 3) := by decide +kernel
theorem dL_holds_89 : decode cL_holds 89 = .ok (.if_icmp .gt 40, 3) := by decide +kernel
theorem dL_holds_92 : decode cL_holds 92 = .ok (.aload_n 0, 1) := by decide +kernel
theorem dL_holds_93 : decode cL_holds 93 = .ok (.iload 5, 2) := by decide +kernel
theorem dL_holds_95 : decode cL_holds 95 = .ok (.iconst 0, 1) := by decide +kernel
theorem dL_holds_96 : decode cL_holds 96 = .ok (.invokevirtual 30, 3) := by decide +kernel
theorem dL_holds_99 : decode cL_holds 99 = .ok (.ifCond .ne 7, 3) := by decide +kernel
theorem dL_holds_102 : decode cL_holds 102 = .ok (.iconst 1, 1) := by decide +kernel
theorem dL_holds_103 : decode cL_holds 103 = .ok (.goto 4, 3) := by decide +kernel
theorem dL_holds_106 : decode cL_holds 106 = .ok (.iconst 0, 1) := by decide +kernel
theorem dL_holds_107 : decode cL_holds 107 = .ok (.aload_n 0, 1) := by decide +kernel
theorem dL_holds_108 : decode cL_holds 108 = .ok (.iload 5, 2) := by decide +kernel
theorem dL_holds_110 : decode cL_holds 110 = .ok (.iconst 2, 1) := by decide +kernel
theorem dL_holds_111 : decode cL_holds 111 = .ok (.invokevirtual 30, 3) := by decide +kernel
theorem dL_holds_114 : decode cL_holds 114 = .ok (.ifCond .ne 7, 3) := by decide +kernel
theorem dL_holds_117 : decode cL_holds 117 = .ok (.iconst 1, 1) := by decide +kernel
theorem dL_holds_118 : decode cL_holds 118 = .ok (.goto 4, 3) := by decide +kernel
theorem dL_holds_121 : decode cL_holds 121 = .ok (.iconst 0, 1) := by decide +kernel
theorem dL_holds_122 : decode cL_holds 122 = .ok (.if_icmp .ne 7, 3) := by decide +kernel
theorem dL_holds_125 : decode cL_holds 125 = .ok (.iconst 1, 1) := by decide +kernel
theorem dL_holds_126 : decode cL_holds 126 = .ok (.goto 4, 3) := by decide +kernel
theorem dL_holds_129 : decode cL_holds 129 = .ok (.iconst 0, 1) := by decide +kernel
theorem dL_holds_130 : decode cL_holds 130 = .ok (.istore 4, 2) := by decide +kernel
theorem dL_holds_132 : decode cL_holds 132 = .ok (.iinc 5 1, 3) := by decide +kernel
theorem dL_holds_135 : decode cL_holds 135 = .ok (.goto (-123), 3) := by decide +kernel
theorem dL_holds_138 : decode cL_holds 138 = .ok (.iconst 0, 1) := by decide +kernel
theorem dL_holds_139 : decode cL_holds 139 = .ok (.istore 5, 2) := by decide +kernel
theorem dL_holds_141 : decode cL_holds 141 = .ok (.iload 5, 2) := by decide +kernel
theorem dL_holds_143 : decode cL_holds 143 = .ok (.aload_n 0, 1) := by decide +kernel
theorem dL_holds_144 : decode cL_holds 144 = .ok (.bipush 6, 2) := by decide +kernel
theorem dL_holds_146 : decode cL_holds 146 = .ok (.invokevirtual 9, 3) := by decide +kernel
theorem dL_holds_149 : decode cL_holds 149 = .ok (.if_icmp .ge 91, 3) := by decide +kernel
theorem dL_holds_152 : decode cL_holds 152 = .ok (.iload 4, 2) := by decide +kernel
theorem dL_holds_154 : decode cL_holds 154 = .ok (.ifCond .eq 86, 3) := by decide +kernel
theorem dL_holds_157 : decode cL_holds 157 = .ok (.aload_n 0, 1) := by decide +kernel
theorem dL_holds_158 : decode cL_holds 158 = .ok (.iload 5, 2) := by decide +kernel
theorem dL_holds_160 : decode cL_holds 160 = .ok (.iconst 2, 1) := by decide +kernel
theorem dL_holds_161 : decode cL_holds 161 = .ok (.invokevirtual 33, 3) := by decide +kernel
theorem dL_holds_164 : decode cL_holds 164 = .ok (.istore 6, 2) := by decide +kernel
theorem dL_holds_166 : decode cL_holds 166 = .ok (.iload_n 2, 1) := by decide +kernel
theorem dL_holds_167 : decode cL_holds 167 = .ok (.iload 6, 2) := by decide +kernel
theorem dL_holds_169 : decode cL_holds 169 = .ok (.iadd, 1) := by decide +kernel
theorem dL_holds_170 : decode cL_holds 170 = .ok (.istore_n 2, 1) := by decide +kernel
theorem dL_holds_171 : decode cL_holds 171 = .ok (.iload 6, 2) := by decide +kernel
theorem dL_holds_173 : decode cL_holds 173 = .ok (.ifCond .lt 58, 3) := by decide +kernel
theorem dL_holds_176 : decode cL_holds 176 = .ok (.iload 6, 2) := by decide +kernel
theorem dL_holds_178 : decode cL_holds 178 = .ok (.bipush 99, 2) := by decide +kernel
theorem dL_holds_180 : decode cL_holds 180 = .ok (.if_icmp .gt 51, 3) := by decide +kernel
theorem dL_holds_183 : decode cL_holds 183 = .ok (.aload_n 0, 1) := by decide +kernel
theorem dL_holds_184 : decode cL_holds 184 = .ok (.iload 5, 2) := by decide +kernel
theorem dL_holds_186 : decode cL_holds 186 = .ok (.iconst 5, 1) := by decide +kernel
theorem dL_holds_187 : decode cL_holds 187 = .ok (.invokevirtual 33, 3) := by decide +kernel
theorem dL_holds_190 : decode cL_holds 190 = .ok (.aload_n 0, 1) := by decide +kernel
theorem dL_holds_191 : decode cL_holds 191 = .ok (.iload 5, 2) := by decide +kernel
theorem dL_holds_193 : decode cL_holds 193 = .ok (.iconst 3, 1) := by decide +kernel
theorem dL_holds_194 : decode cL_holds 194 = .ok (.invokevirtual 33, 3) := by decide +kernel
theorem dL_holds_197 : decode cL_holds 197 = .ok (.if_icmp .ge 34, 3) := by decide +kernel
theorem dL_holds_200 : decode cL_holds 200 = .ok (.aload_n 0, 1) := by decide +kernel
theorem dL_holds_201 : decode cL_holds 201 = .ok (.iload 5, 2) := by decide +kernel
theorem dL_holds_203 : decode cL_holds 203 = .ok (.invokevirtual 36, 3) := by decide +kernel
theorem dL_holds_206 : decode cL_holds 206 = .ok (.ifCond .ne 7, 3) := by decide +kernel
theorem dL_holds_209 : decode cL_holds 209 = .ok (.iconst 1, 1) := by decide +kernel
theorem dL_holds_210 : decode cL_holds 210 = .ok (.goto 4, 3) := by decide +kernel
theorem dL_holds_213 : decode cL_holds 213 = .ok (.iconst 0, 1) := by decide +kernel
theorem dL_holds_214 : decode cL_holds 214 = .ok (.iload 6, 2) := by decide +kernel
theorem dL_holds_216 : decode cL_holds 216 = .ok (.ifCond .ne 7, 3) := by decide +kernel
theorem dL_holds_219 : decode cL_holds 219 = .ok (.iconst 1, 1) := by decide +kernel
theorem dL_holds_220 : decode cL_holds 220 = .ok (.goto 4, 3) := by decide +kernel
theorem dL_holds_223 : decode cL_holds 223 = .ok (.iconst 0, 1) := by decide +kernel
theorem dL_holds_224 : decode cL_holds 224 = .ok (.if_icmp .ne 7, 3) := by decide +kernel
theorem dL_holds_227 : decode cL_holds 227 = .ok (.iconst 1, 1) := by decide +kernel
theorem dL_holds_228 : decode cL_holds 228 = .ok (.goto 4, 3) := by decide +kernel
theorem dL_holds_231 : decode cL_holds 231 = .ok (.iconst 0, 1) := by decide +kernel
theorem dL_holds_232 : decode cL_holds 232 = .ok (.istore 4, 2) := by decide +kernel
theorem dL_holds_234 : decode cL_holds 234 = .ok (.iinc 5 1, 3) := by decide +kernel
theorem dL_holds_237 : decode cL_holds 237 = .ok (.goto (-96), 3) := by decide +kernel
theorem dL_holds_240 : decode cL_holds 240 = .ok (.aload_n 0, 1) := by decide +kernel
theorem dL_holds_241 : decode cL_holds 241 = .ok (.invokevirtual 39, 3) := by decide +kernel
theorem dL_holds_244 : decode cL_holds 244 = .ok (.istore 5, 2) := by decide +kernel
theorem dL_holds_246 : decode cL_holds 246 = .ok (.iconst 0, 1) := by decide +kernel
theorem dL_holds_247 : decode cL_holds 247 = .ok (.istore 6, 2) := by decide +kernel
theorem dL_holds_249 : decode cL_holds 249 = .ok (.iload 6, 2) := by decide +kernel
theorem dL_holds_251 : decode cL_holds 251 = .ok (.iconst 4, 1) := by decide +kernel
theorem dL_holds_252 : decode cL_holds 252 = .ok (.if_icmp .ge 61, 3) := by decide +kernel
theorem dL_holds_255 : decode cL_holds 255 = .ok (.iload 4, 2) := by decide +kernel
