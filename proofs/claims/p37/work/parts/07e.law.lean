theorem dL_apart_25 : decode cL_apart 25 = .ok (.iload 5, 2) := by decide +kernel
theorem dL_apart_27 : decode cL_apart 27 = .ok (.ifCond .lt 29, 3) := by decide +kernel
theorem dL_apart_30 : decode cL_apart 30 = .ok (.aload_n 0, 1) := by decide +kernel
theorem dL_apart_31 : decode cL_apart 31 = .ok (.iconst 0, 1) := by decide +kernel
theorem dL_apart_32 : decode cL_apart 32 = .ok (.invokevirtual 9, 3) := by decide +kernel
theorem dL_apart_35 : decode cL_apart 35 = .ok (.iload 5, 2) := by decide +kernel
theorem dL_apart_37 : decode cL_apart 37 = .ok (.if_icmp .gt 19, 3) := by decide +kernel
theorem dL_apart_40 : decode cL_apart 40 = .ok (.iload_n 3, 1) := by decide +kernel
theorem dL_apart_41 : decode cL_apart 41 = .ok (.iload 4, 2) := by decide +kernel
theorem dL_apart_43 : decode cL_apart 43 = .ok (.if_icmp .ge 13, 3) := by decide +kernel
theorem dL_apart_46 : decode cL_apart 46 = .ok (.aload_n 0, 1) := by decide +kernel
theorem dL_apart_47 : decode cL_apart 47 = .ok (.iconst 0, 1) := by decide +kernel
theorem dL_apart_48 : decode cL_apart 48 = .ok (.invokevirtual 9, 3) := by decide +kernel
theorem dL_apart_51 : decode cL_apart 51 = .ok (.iload 5, 2) := by decide +kernel
theorem dL_apart_53 : decode cL_apart 53 = .ok (.if_icmp .ge 7, 3) := by decide +kernel
theorem dL_apart_56 : decode cL_apart 56 = .ok (.iconst 1, 1) := by decide +kernel
theorem dL_apart_57 : decode cL_apart 57 = .ok (.goto 4, 3) := by decide +kernel
theorem dL_apart_60 : decode cL_apart 60 = .ok (.iconst 0, 1) := by decide +kernel
theorem dL_apart_61 : decode cL_apart 61 = .ok (.istore 6, 2) := by decide +kernel
theorem dL_apart_63 : decode cL_apart 63 = .ok (.iconst 0, 1) := by decide +kernel
theorem dL_apart_64 : decode cL_apart 64 = .ok (.istore 7, 2) := by decide +kernel
theorem dL_apart_66 : decode cL_apart 66 = .ok (.iload 7, 2) := by decide +kernel
theorem dL_apart_68 : decode cL_apart 68 = .ok (.bipush 6, 2) := by decide +kernel
theorem dL_apart_70 : decode cL_apart 70 = .ok (.if_icmp .ge 96, 3) := by decide +kernel
theorem dL_apart_73 : decode cL_apart 73 = .ok (.iload 6, 2) := by decide +kernel
theorem dL_apart_75 : decode cL_apart 75 = .ok (.ifCond .eq 91, 3) := by decide +kernel
theorem dL_apart_78 : decode cL_apart 78 = .ok (.iload_n 3, 1) := by decide +kernel
theorem dL_apart_79 : decode cL_apart 79 = .ok (.ifCond .ne 7, 3) := by decide +kernel
theorem dL_apart_82 : decode cL_apart 82 = .ok (.iconst 0, 1) := by decide +kernel
theorem dL_apart_83 : decode cL_apart 83 = .ok (.goto 12, 3) := by decide +kernel
theorem dL_apart_86 : decode cL_apart 86 = .ok (.iload_n 2, 1) := by decide +kernel
theorem dL_apart_87 : decode cL_apart 87 = .ok (.bipush 64, 2) := by decide +kernel
theorem dL_apart_89 : decode cL_apart 89 = .ok (.idiv, 1) := by decide +kernel
theorem dL_apart_90 : decode cL_apart 90 = .ok (.iload 7, 2) := by decide +kernel
theorem dL_apart_92 : decode cL_apart 92 = .ok (.iadd, 1) := by decide +kernel
theorem dL_apart_93 : decode cL_apart 93 = .ok (.iload_n 3, 1) := by decide +kernel
theorem dL_apart_94 : decode cL_apart 94 = .ok (.irem, 1) := by decide +kernel
theorem dL_apart_95 : decode cL_apart 95 = .ok (.istore 8, 2) := by decide +kernel
theorem dL_apart_97 : decode cL_apart 97 = .ok (.aload_n 0, 1) := by decide +kernel
theorem dL_apart_98 : decode cL_apart 98 = .ok (.iload 8, 2) := by decide +kernel
theorem dL_apart_100 : decode cL_apart 100 = .ok (.aload_n 0, 1) := by decide +kernel
theorem dL_apart_101 : decode cL_apart 101 = .ok (.iload_n 1, 1) := by decide +kernel
theorem dL_apart_102 : decode cL_apart 102 = .ok (.iconst 0, 1) := by decide +kernel
theorem dL_apart_103 : decode cL_apart 103 = .ok (.invokevirtual 53, 3) := by decide +kernel
theorem dL_apart_106 : decode cL_apart 106 = .ok (.imul, 1) := by decide +kernel
theorem dL_apart_107 : decode cL_apart 107 = .ok (.invokevirtual 15, 3) := by decide +kernel
theorem dL_apart_110 : decode cL_apart 110 = .ok (.istore 9, 2) := by decide +kernel
theorem dL_apart_112 : decode cL_apart 112 = .ok (.iload_n 3, 1) := by decide +kernel
theorem dL_apart_113 : decode cL_apart 113 = .ok (.ifCond .eq 40, 3) := by decide +kernel
theorem dL_apart_116 : decode cL_apart 116 = .ok (.aload_n 0, 1) := by decide +kernel
theorem dL_apart_117 : decode cL_apart 117 = .ok (.iload 9, 2) := by decide +kernel
theorem dL_apart_119 : decode cL_apart 119 = .ok (.iload_n 1, 1) := by decide +kernel
theorem dL_apart_120 : decode cL_apart 120 = .ok (.iconst 0, 1) := by decide +kernel
theorem dL_apart_121 : decode cL_apart 121 = .ok (.invokevirtual 18, 3) := by decide +kernel
theorem dL_apart_124 : decode cL_apart 124 = .ok (.iload 8, 2) := by decide +kernel
theorem dL_apart_126 : decode cL_apart 126 = .ok (.if_icmp .lt 15, 3) := by decide +kernel
theorem dL_apart_129 : decode cL_apart 129 = .ok (.aload_n 0, 1) := by decide +kernel
theorem dL_apart_130 : decode cL_apart 130 = .ok (.iload 9, 2) := by decide +kernel
theorem dL_apart_132 : decode cL_apart 132 = .ok (.iload_n 1, 1) := by decide +kernel
theorem dL_apart_133 : decode cL_apart 133 = .ok (.iconst 0, 1) := by decide +kernel
theorem dL_apart_134 : decode cL_apart 134 = .ok (.invokevirtual 18, 3) := by decide +kernel
theorem dL_apart_137 : decode cL_apart 137 = .ok (.iload_n 3, 1) := by decide +kernel
theorem dL_apart_138 : decode cL_apart 138 = .ok (.if_icmp .le 15, 3) := by decide +kernel
theorem dL_apart_141 : decode cL_apart 141 = .ok (.aload_n 0, 1) := by decide +kernel
theorem dL_apart_142 : decode cL_apart 142 = .ok (.iload 9, 2) := by decide +kernel
theorem dL_apart_144 : decode cL_apart 144 = .ok (.iload_n 1, 1) := by decide +kernel
theorem dL_apart_145 : decode cL_apart 145 = .ok (.iconst 2, 1) := by decide +kernel
theorem dL_apart_146 : decode cL_apart 146 = .ok (.invokevirtual 18, 3) := by decide +kernel
theorem dL_apart_149 : decode cL_apart 149 = .ok (.iconst 1, 1) := by decide +kernel
theorem dL_apart_150 : decode cL_apart 150 = .ok (.if_icmp .ne 7, 3) := by decide +kernel
theorem dL_apart_153 : decode cL_apart 153 = .ok (.iconst 1, 1) := by decide +kernel
theorem dL_apart_154 : decode cL_apart 154 = .ok (.goto 4, 3) := by decide +kernel
theorem dL_apart_157 : decode cL_apart 157 = .ok (.iconst 0, 1) := by decide +kernel
theorem dL_apart_158 : decode cL_apart 158 = .ok (.istore 6, 2) := by decide +kernel
theorem dL_apart_160 : decode cL_apart 160 = .ok (.iinc 7 1, 3) := by decide +kernel
theorem dL_apart_163 : decode cL_apart 163 = .ok (.goto (-97), 3) := by decide +kernel
theorem dL_apart_166 : decode cL_apart 166 = .ok (.aload_n 0, 1) := by decide +kernel
theorem dL_apart_167 : decode cL_apart 167 = .ok (.iconst 1, 1) := by decide +kernel
theorem dL_apart_168 : decode cL_apart 168 = .ok (.invokevirtual 9, 3) := by decide +kernel
theorem dL_apart_171 : decode cL_apart 171 = .ok (.istore 7, 2) := by decide +kernel
theorem dL_apart_173 : decode cL_apart 173 = .ok (.iload 5, 2) := by decide +kernel
theorem dL_apart_175 : decode cL_apart 175 = .ok (.ifCond .le 57, 3) := by decide +kernel
theorem dL_apart_178 : decode cL_apart 178 = .ok (.iload 6, 2) := by decide +kernel
theorem dL_apart_180 : decode cL_apart 180 = .ok (.ifCond .eq 49, 3) := by decide +kernel
theorem dL_apart_183 : decode cL_apart 183 = .ok (.aload_n 0, 1) := by decide +kernel
theorem dL_apart_184 : decode cL_apart 184 = .ok (.iload 5, 2) := by decide +kernel
theorem dL_apart_186 : decode cL_apart 186 = .ok (.iload 7, 2) := by decide +kernel
theorem dL_apart_188 : decode cL_apart 188 = .ok (.invokevirtual 56, 3) := by decide +kernel
theorem dL_apart_191 : decode cL_apart 191 = .ok (.aload_n 0, 1) := by decide +kernel
theorem dL_apart_192 : decode cL_apart 192 = .ok (.iconst 2, 1) := by decide +kernel
theorem dL_apart_193 : decode cL_apart 193 = .ok (.invokevirtual 9, 3) := by decide +kernel
theorem dL_apart_196 : decode cL_apart 196 = .ok (.if_icmp .ne 33, 3) := by decide +kernel
theorem dL_apart_199 : decode cL_apart 199 = .ok (.aload_n 0, 1) := by decide +kernel
theorem dL_apart_200 : decode cL_apart 200 = .ok (.iload_n 1, 1) := by decide +kernel
theorem dL_apart_201 : decode cL_apart 201 = .ok (.invokevirtual 47, 3) := by decide +kernel
theorem dL_apart_204 : decode cL_apart 204 = .ok (.iload 4, 2) := by decide +kernel
theorem dL_apart_206 : decode cL_apart 206 = .ok (.if_icmp .lt 23, 3) := by decide +kernel
theorem dL_apart_209 : decode cL_apart 209 = .ok (.aload_n 0, 1) := by decide +kernel
theorem dL_apart_210 : decode cL_apart 210 = .ok (.invokevirtual 59, 3) := by decide +kernel
theorem dL_apart_213 : decode cL_apart 213 = .ok (.ifCond .lt 16, 3) := by decide +kernel
theorem dL_apart_216 : decode cL_apart 216 = .ok (.aload_n 0, 1) := by decide +kernel
theorem dL_apart_217 : decode cL_apart 217 = .ok (.iload_n 1, 1) := by decide +kernel
theorem dL_apart_218 : decode cL_apart 218 = .ok (.invokevirtual 47, 3) := by decide +kernel
theorem dL_apart_221 : decode cL_apart 221 = .ok (.iload_n 3, 1) := by decide +kernel
theorem dL_apart_222 : decode cL_apart 222 = .ok (.if_icmp .ne 7, 3) := by decide +kernel
theorem dL_apart_225 : decode cL_apart 225 = .ok (.iconst 1, 1) := by decide +kernel
theorem dL_apart_226 : decode cL_apart 226 = .ok (.goto 4, 3) := by decide +kernel
theorem dL_apart_229 : decode cL_apart 229 = .ok (.iconst 0, 1) := by decide +kernel
theorem dL_apart_230 : decode cL_apart 230 = .ok (.istore 6, 2) := by decide +kernel
theorem dL_apart_232 : decode cL_apart 232 = .ok (.iload 6, 2) := by decide +kernel
