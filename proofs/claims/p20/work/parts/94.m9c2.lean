theorem dX9_cure_0 : decode cX9_cure 0 = .ok (.aload_n 0, 1) := by decide +kernel
theorem dX9_cure_1 : decode cX9_cure 1 = .ok (.getfield 224, 3) := by decide +kernel
theorem dX9_cure_100 : decode cX9_cure 100 = .ok (.iconst (-1), 1) := by decide +kernel
theorem dX9_cure_101 : decode cX9_cure 101 = .ok (.istore_n 3, 1) := by decide +kernel
theorem dX9_cure_102 : decode cX9_cure 102 = .ok (.aload_n 0, 1) := by decide +kernel
theorem dX9_cure_103 : decode cX9_cure 103 = .ok (.getfield 110, 3) := by decide +kernel
theorem dX9_cure_106 : decode cX9_cure 106 = .ok (.iload 6, 2) := by decide +kernel
theorem dX9_cure_108 : decode cX9_cure 108 = .ok (.iaload, 1) := by decide +kernel
theorem dX9_cure_109 : decode cX9_cure 109 = .ok (.istore 4, 2) := by decide +kernel
theorem dX9_cure_11 : decode cX9_cure 11 = .ok (.iload_n 1, 1) := by decide +kernel
theorem dX9_cure_111 : decode cX9_cure 111 = .ok (.iinc 6 1, 3) := by decide +kernel
theorem dX9_cure_114 : decode cX9_cure 114 = .ok (.goto (-54), 3) := by decide +kernel
theorem dX9_cure_117 : decode cX9_cure 117 = .ok (.iconst 0, 1) := by decide +kernel
theorem dX9_cure_118 : decode cX9_cure 118 = .ok (.istore 6, 2) := by decide +kernel
theorem dX9_cure_12 : decode cX9_cure 12 = .ok (.iconst 2, 1) := by decide +kernel
theorem dX9_cure_120 : decode cX9_cure 120 = .ok (.iload 6, 2) := by decide +kernel
theorem dX9_cure_122 : decode cX9_cure 122 = .ok (.aload_n 0, 1) := by decide +kernel
theorem dX9_cure_123 : decode cX9_cure 123 = .ok (.getfield 381, 3) := by decide +kernel
theorem dX9_cure_126 : decode cX9_cure 126 = .ok (.if_icmp .ge 91, 3) := by decide +kernel
theorem dX9_cure_129 : decode cX9_cure 129 = .ok (.iload_n 1, 1) := by decide +kernel
theorem dX9_cure_13 : decode cX9_cure 13 = .ok (.if_icmp .le 5, 3) := by decide +kernel
theorem dX9_cure_130 : decode cX9_cure 130 = .ok (.iconst 2, 1) := by decide +kernel
theorem dX9_cure_131 : decode cX9_cure 131 = .ok (.if_icmp .lt 86, 3) := by decide +kernel
theorem dX9_cure_134 : decode cX9_cure 134 = .ok (.iload_n 2, 1) := by decide +kernel
theorem dX9_cure_135 : decode cX9_cure 135 = .ok (.ifCond .ne 82, 3) := by decide +kernel
theorem dX9_cure_138 : decode cX9_cure 138 = .ok (.iload 6, 2) := by decide +kernel
theorem dX9_cure_140 : decode cX9_cure 140 = .ok (.iconst 1, 1) := by decide +kernel
theorem dX9_cure_141 : decode cX9_cure 141 = .ok (.iadd, 1) := by decide +kernel
theorem dX9_cure_142 : decode cX9_cure 142 = .ok (.istore 7, 2) := by decide +kernel
theorem dX9_cure_144 : decode cX9_cure 144 = .ok (.iload 7, 2) := by decide +kernel
theorem dX9_cure_146 : decode cX9_cure 146 = .ok (.aload_n 0, 1) := by decide +kernel
theorem dX9_cure_147 : decode cX9_cure 147 = .ok (.getfield 381, 3) := by decide +kernel
theorem dX9_cure_150 : decode cX9_cure 150 = .ok (.if_icmp .ge 61, 3) := by decide +kernel
theorem dX9_cure_153 : decode cX9_cure 153 = .ok (.iload_n 2, 1) := by decide +kernel
theorem dX9_cure_154 : decode cX9_cure 154 = .ok (.ifCond .ne 57, 3) := by decide +kernel
theorem dX9_cure_157 : decode cX9_cure 157 = .ok (.aload_n 0, 1) := by decide +kernel
theorem dX9_cure_158 : decode cX9_cure 158 = .ok (.aload_n 0, 1) := by decide +kernel
theorem dX9_cure_159 : decode cX9_cure 159 = .ok (.getfield 110, 3) := by decide +kernel
theorem dX9_cure_16 : decode cX9_cure 16 = .ok (.iconst (-1), 1) := by decide +kernel
theorem dX9_cure_162 : decode cX9_cure 162 = .ok (.iload 6, 2) := by decide +kernel
theorem dX9_cure_164 : decode cX9_cure 164 = .ok (.iaload, 1) := by decide +kernel
theorem dX9_cure_165 : decode cX9_cure 165 = .ok (.aload_n 0, 1) := by decide +kernel
theorem dX9_cure_166 : decode cX9_cure 166 = .ok (.getfield 110, 3) := by decide +kernel
theorem dX9_cure_169 : decode cX9_cure 169 = .ok (.iload 7, 2) := by decide +kernel
theorem dX9_cure_17 : decode cX9_cure 17 = .ok (.ireturn, 1) := by decide +kernel
theorem dX9_cure_171 : decode cX9_cure 171 = .ok (.iaload, 1) := by decide +kernel
theorem dX9_cure_172 : decode cX9_cure 172 = .ok (.invokevirtual 396, 3) := by decide +kernel
theorem dX9_cure_175 : decode cX9_cure 175 = .ok (.istore_n 2, 1) := by decide +kernel
theorem dX9_cure_176 : decode cX9_cure 176 = .ok (.iload_n 2, 1) := by decide +kernel
theorem dX9_cure_177 : decode cX9_cure 177 = .ok (.iconst 1, 1) := by decide +kernel
theorem dX9_cure_178 : decode cX9_cure 178 = .ok (.if_icmp .ne 7, 3) := by decide +kernel
theorem dX9_cure_18 : decode cX9_cure 18 = .ok (.aload_n 0, 1) := by decide +kernel
theorem dX9_cure_181 : decode cX9_cure 181 = .ok (.iconst 2, 1) := by decide +kernel
theorem dX9_cure_182 : decode cX9_cure 182 = .ok (.goto 4, 3) := by decide +kernel
theorem dX9_cure_185 : decode cX9_cure 185 = .ok (.iconst (-1), 1) := by decide +kernel
theorem dX9_cure_186 : decode cX9_cure 186 = .ok (.istore_n 3, 1) := by decide +kernel
theorem dX9_cure_187 : decode cX9_cure 187 = .ok (.aload_n 0, 1) := by decide +kernel
theorem dX9_cure_188 : decode cX9_cure 188 = .ok (.getfield 110, 3) := by decide +kernel
theorem dX9_cure_19 : decode cX9_cure 19 = .ok (.iconst 0, 1) := by decide +kernel
theorem dX9_cure_191 : decode cX9_cure 191 = .ok (.iload 6, 2) := by decide +kernel
theorem dX9_cure_193 : decode cX9_cure 193 = .ok (.iaload, 1) := by decide +kernel
theorem dX9_cure_194 : decode cX9_cure 194 = .ok (.istore 4, 2) := by decide +kernel
theorem dX9_cure_196 : decode cX9_cure 196 = .ok (.aload_n 0, 1) := by decide +kernel
theorem dX9_cure_197 : decode cX9_cure 197 = .ok (.getfield 110, 3) := by decide +kernel
theorem dX9_cure_20 : decode cX9_cure 20 = .ok (.invokevirtual 347, 3) := by decide +kernel
theorem dX9_cure_200 : decode cX9_cure 200 = .ok (.iload 7, 2) := by decide +kernel
theorem dX9_cure_202 : decode cX9_cure 202 = .ok (.iaload, 1) := by decide +kernel
theorem dX9_cure_203 : decode cX9_cure 203 = .ok (.istore 5, 2) := by decide +kernel
theorem dX9_cure_205 : decode cX9_cure 205 = .ok (.iinc 7 1, 3) := by decide +kernel
theorem dX9_cure_208 : decode cX9_cure 208 = .ok (.goto (-64), 3) := by decide +kernel
theorem dX9_cure_211 : decode cX9_cure 211 = .ok (.iinc 6 1, 3) := by decide +kernel
theorem dX9_cure_214 : decode cX9_cure 214 = .ok (.goto (-94), 3) := by decide +kernel
theorem dX9_cure_217 : decode cX9_cure 217 = .ok (.iload_n 2, 1) := by decide +kernel
theorem dX9_cure_218 : decode cX9_cure 218 = .ok (.bipush (-2), 2) := by decide +kernel
theorem dX9_cure_220 : decode cX9_cure 220 = .ok (.if_icmp .ne 6, 3) := by decide +kernel
theorem dX9_cure_223 : decode cX9_cure 223 = .ok (.bipush (-2), 2) := by decide +kernel
theorem dX9_cure_225 : decode cX9_cure 225 = .ok (.ireturn, 1) := by decide +kernel
theorem dX9_cure_226 : decode cX9_cure 226 = .ok (.iload_n 3, 1) := by decide +kernel
theorem dX9_cure_227 : decode cX9_cure 227 = .ok (.ifCond .lt 24, 3) := by decide +kernel
theorem dX9_cure_23 : decode cX9_cure 23 = .ok (.ifCond .ne 6, 3) := by decide +kernel
theorem dX9_cure_230 : decode cX9_cure 230 = .ok (.aload_n 0, 1) := by decide +kernel
theorem dX9_cure_231 : decode cX9_cure 231 = .ok (.iload_n 3, 1) := by decide +kernel
theorem dX9_cure_232 : decode cX9_cure 232 = .ok (.putfield 104, 3) := by decide +kernel
theorem dX9_cure_235 : decode cX9_cure 235 = .ok (.aload_n 0, 1) := by decide +kernel
theorem dX9_cure_236 : decode cX9_cure 236 = .ok (.getfield 107, 3) := by decide +kernel
theorem dX9_cure_239 : decode cX9_cure 239 = .ok (.iconst 0, 1) := by decide +kernel
theorem dX9_cure_240 : decode cX9_cure 240 = .ok (.iload 4, 2) := by decide +kernel
theorem dX9_cure_242 : decode cX9_cure 242 = .ok (.iastore, 1) := by decide +kernel
theorem dX9_cure_243 : decode cX9_cure 243 = .ok (.aload_n 0, 1) := by decide +kernel
theorem dX9_cure_244 : decode cX9_cure 244 = .ok (.getfield 107, 3) := by decide +kernel
theorem dX9_cure_247 : decode cX9_cure 247 = .ok (.iconst 1, 1) := by decide +kernel
theorem dX9_cure_248 : decode cX9_cure 248 = .ok (.iload 5, 2) := by decide +kernel
theorem dX9_cure_250 : decode cX9_cure 250 = .ok (.iastore, 1) := by decide +kernel
theorem dX9_cure_251 : decode cX9_cure 251 = .ok (.iload_n 3, 1) := by decide +kernel
theorem dX9_cure_252 : decode cX9_cure 252 = .ok (.ireturn, 1) := by decide +kernel
theorem dX9_cure_26 : decode cX9_cure 26 = .ok (.bipush (-2), 2) := by decide +kernel
theorem dX9_cure_28 : decode cX9_cure 28 = .ok (.ireturn, 1) := by decide +kernel
theorem dX9_cure_29 : decode cX9_cure 29 = .ok (.aload_n 0, 1) := by decide +kernel
theorem dX9_cure_30 : decode cX9_cure 30 = .ok (.invokevirtual 393, 3) := by decide +kernel
theorem dX9_cure_33 : decode cX9_cure 33 = .ok (.aload_n 0, 1) := by decide +kernel
theorem dX9_cure_34 : decode cX9_cure 34 = .ok (.iconst (-1), 1) := by decide +kernel
theorem dX9_cure_35 : decode cX9_cure 35 = .ok (.iconst (-1), 1) := by decide +kernel
theorem dX9_cure_36 : decode cX9_cure 36 = .ok (.invokevirtual 396, 3) := by decide +kernel
theorem dX9_cure_39 : decode cX9_cure 39 = .ok (.istore_n 2, 1) := by decide +kernel
theorem dX9_cure_4 : decode cX9_cure 4 = .ok (.ifCond .eq 12, 3) := by decide +kernel
theorem dX9_cure_40 : decode cX9_cure 40 = .ok (.iload_n 2, 1) := by decide +kernel
theorem dX9_cure_41 : decode cX9_cure 41 = .ok (.iconst 1, 1) := by decide +kernel
theorem dX9_cure_42 : decode cX9_cure 42 = .ok (.if_icmp .ne 7, 3) := by decide +kernel
theorem dX9_cure_45 : decode cX9_cure 45 = .ok (.iconst 0, 1) := by decide +kernel
theorem dX9_cure_46 : decode cX9_cure 46 = .ok (.goto 4, 3) := by decide +kernel
theorem dX9_cure_49 : decode cX9_cure 49 = .ok (.iconst (-1), 1) := by decide +kernel
theorem dX9_cure_50 : decode cX9_cure 50 = .ok (.istore_n 3, 1) := by decide +kernel
theorem dX9_cure_51 : decode cX9_cure 51 = .ok (.iconst (-1), 1) := by decide +kernel
theorem dX9_cure_52 : decode cX9_cure 52 = .ok (.istore 4, 2) := by decide +kernel
theorem dX9_cure_54 : decode cX9_cure 54 = .ok (.iconst (-1), 1) := by decide +kernel
theorem dX9_cure_55 : decode cX9_cure 55 = .ok (.istore 5, 2) := by decide +kernel
theorem dX9_cure_57 : decode cX9_cure 57 = .ok (.iconst 0, 1) := by decide +kernel
theorem dX9_cure_58 : decode cX9_cure 58 = .ok (.istore 6, 2) := by decide +kernel
theorem dX9_cure_60 : decode cX9_cure 60 = .ok (.iload 6, 2) := by decide +kernel
theorem dX9_cure_62 : decode cX9_cure 62 = .ok (.aload_n 0, 1) := by decide +kernel
theorem dX9_cure_63 : decode cX9_cure 63 = .ok (.getfield 381, 3) := by decide +kernel
theorem dX9_cure_66 : decode cX9_cure 66 = .ok (.if_icmp .ge 51, 3) := by decide +kernel
theorem dX9_cure_69 : decode cX9_cure 69 = .ok (.iload_n 1, 1) := by decide +kernel
theorem dX9_cure_7 : decode cX9_cure 7 = .ok (.iload_n 1, 1) := by decide +kernel
theorem dX9_cure_70 : decode cX9_cure 70 = .ok (.iconst 1, 1) := by decide +kernel
theorem dX9_cure_71 : decode cX9_cure 71 = .ok (.if_icmp .lt 46, 3) := by decide +kernel
theorem dX9_cure_74 : decode cX9_cure 74 = .ok (.iload_n 2, 1) := by decide +kernel
theorem dX9_cure_75 : decode cX9_cure 75 = .ok (.ifCond .ne 42, 3) := by decide +kernel
theorem dX9_cure_78 : decode cX9_cure 78 = .ok (.aload_n 0, 1) := by decide +kernel
theorem dX9_cure_79 : decode cX9_cure 79 = .ok (.aload_n 0, 1) := by decide +kernel
theorem dX9_cure_8 : decode cX9_cure 8 = .ok (.ifCond .lt 8, 3) := by decide +kernel
theorem dX9_cure_80 : decode cX9_cure 80 = .ok (.getfield 110, 3) := by decide +kernel
theorem dX9_cure_83 : decode cX9_cure 83 = .ok (.iload 6, 2) := by decide +kernel
theorem dX9_cure_85 : decode cX9_cure 85 = .ok (.iaload, 1) := by decide +kernel
theorem dX9_cure_86 : decode cX9_cure 86 = .ok (.iconst (-1), 1) := by decide +kernel
theorem dX9_cure_87 : decode cX9_cure 87 = .ok (.invokevirtual 396, 3) := by decide +kernel
theorem dX9_cure_90 : decode cX9_cure 90 = .ok (.istore_n 2, 1) := by decide +kernel
theorem dX9_cure_91 : decode cX9_cure 91 = .ok (.iload_n 2, 1) := by decide +kernel
theorem dX9_cure_92 : decode cX9_cure 92 = .ok (.iconst 1, 1) := by decide +kernel
theorem dX9_cure_93 : decode cX9_cure 93 = .ok (.if_icmp .ne 7, 3) := by decide +kernel
theorem dX9_cure_96 : decode cX9_cure 96 = .ok (.iconst 1, 1) := by decide +kernel
theorem dX9_cure_97 : decode cX9_cure 97 = .ok (.goto 4, 3) := by decide +kernel