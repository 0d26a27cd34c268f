theorem dX9_token_0 : decode cX9_token 0 = .ok (.aload_n 0, 1) := by decide +kernel
theorem dX9_token_1 : decode cX9_token 1 = .ok (.getfield 127, 3) := by decide +kernel
theorem dX9_token_10 : decode cX9_token 10 = .ok (.if_icmp .ge 53, 3) := by decide +kernel
theorem dX9_token_101 : decode cX9_token 101 = .ok (.aload_n 0, 1) := by decide +kernel
theorem dX9_token_102 : decode cX9_token 102 = .ok (.iload_n 1, 1) := by decide +kernel
theorem dX9_token_103 : decode cX9_token 103 = .ok (.invokevirtual 140, 3) := by decide +kernel
theorem dX9_token_106 : decode cX9_token 106 = .ok (.ifCond .eq 80, 3) := by decide +kernel
theorem dX9_token_109 : decode cX9_token 109 = .ok (.aload_n 0, 1) := by decide +kernel
theorem dX9_token_110 : decode cX9_token 110 = .ok (.iload_n 2, 1) := by decide +kernel
theorem dX9_token_111 : decode cX9_token 111 = .ok (.invokevirtual 140, 3) := by decide +kernel
theorem dX9_token_114 : decode cX9_token 114 = .ok (.ifCond .eq 9, 3) := by decide +kernel
theorem dX9_token_117 : decode cX9_token 117 = .ok (.iinc 2 1, 3) := by decide +kernel
theorem dX9_token_120 : decode cX9_token 120 = .ok (.goto (-11), 3) := by decide +kernel
theorem dX9_token_123 : decode cX9_token 123 = .ok (.aload_n 0, 1) := by decide +kernel
theorem dX9_token_124 : decode cX9_token 124 = .ok (.iload_n 2, 1) := by decide +kernel
theorem dX9_token_125 : decode cX9_token 125 = .ok (.iload_n 1, 1) := by decide +kernel
theorem dX9_token_126 : decode cX9_token 126 = .ok (.isub, 1) := by decide +kernel
theorem dX9_token_127 : decode cX9_token 127 = .ok (.bipush 8, 2) := by decide +kernel
theorem dX9_token_129 : decode cX9_token 129 = .ok (.if_icmp .le 7, 3) := by decide +kernel
theorem dX9_token_13 : decode cX9_token 13 = .ok (.aload_n 0, 1) := by decide +kernel
theorem dX9_token_132 : decode cX9_token 132 = .ok (.iconst 5, 1) := by decide +kernel
theorem dX9_token_133 : decode cX9_token 133 = .ok (.goto 4, 3) := by decide +kernel
theorem dX9_token_136 : decode cX9_token 136 = .ok (.iconst 1, 1) := by decide +kernel
theorem dX9_token_137 : decode cX9_token 137 = .ok (.putfield 137, 3) := by decide +kernel
theorem dX9_token_14 : decode cX9_token 14 = .ok (.getfield 88, 3) := by decide +kernel
theorem dX9_token_140 : decode cX9_token 140 = .ok (.iload_n 1, 1) := by decide +kernel
theorem dX9_token_141 : decode cX9_token 141 = .ok (.istore 4, 2) := by decide +kernel
theorem dX9_token_143 : decode cX9_token 143 = .ok (.iload 4, 2) := by decide +kernel
theorem dX9_token_145 : decode cX9_token 145 = .ok (.iload_n 2, 1) := by decide +kernel
theorem dX9_token_146 : decode cX9_token 146 = .ok (.if_icmp .ge 37, 3) := by decide +kernel
theorem dX9_token_149 : decode cX9_token 149 = .ok (.aload_n 0, 1) := by decide +kernel
theorem dX9_token_150 : decode cX9_token 150 = .ok (.getfield 137, 3) := by decide +kernel
theorem dX9_token_153 : decode cX9_token 153 = .ok (.iconst 1, 1) := by decide +kernel
theorem dX9_token_154 : decode cX9_token 154 = .ok (.if_icmp .ne 29, 3) := by decide +kernel
theorem dX9_token_157 : decode cX9_token 157 = .ok (.aload_n 0, 1) := by decide +kernel
theorem dX9_token_158 : decode cX9_token 158 = .ok (.aload_n 0, 1) := by decide +kernel
theorem dX9_token_159 : decode cX9_token 159 = .ok (.getfield 133, 3) := by decide +kernel
theorem dX9_token_162 : decode cX9_token 162 = .ok (.bipush 8, 2) := by decide +kernel
theorem dX9_token_164 : decode cX9_token 164 = .ok (.lshl, 1) := by decide +kernel
theorem dX9_token_165 : decode cX9_token 165 = .ok (.aload_n 0, 1) := by decide +kernel
theorem dX9_token_166 : decode cX9_token 166 = .ok (.getfield 88, 3) := by decide +kernel
theorem dX9_token_169 : decode cX9_token 169 = .ok (.iload 4, 2) := by decide +kernel
theorem dX9_token_17 : decode cX9_token 17 = .ok (.iload_n 1, 1) := by decide +kernel
theorem dX9_token_171 : decode cX9_token 171 = .ok (.baload, 1) := by decide +kernel
theorem dX9_token_172 : decode cX9_token 172 = .ok (.i2l, 1) := by decide +kernel
theorem dX9_token_173 : decode cX9_token 173 = .ok (.lor, 1) := by decide +kernel
theorem dX9_token_174 : decode cX9_token 174 = .ok (.putfield 133, 3) := by decide +kernel
theorem dX9_token_177 : decode cX9_token 177 = .ok (.iinc 4 1, 3) := by decide +kernel
theorem dX9_token_18 : decode cX9_token 18 = .ok (.baload, 1) := by decide +kernel
theorem dX9_token_180 : decode cX9_token 180 = .ok (.goto (-37), 3) := by decide +kernel
theorem dX9_token_183 : decode cX9_token 183 = .ok (.goto 83, 3) := by decide +kernel
theorem dX9_token_186 : decode cX9_token 186 = .ok (.aload_n 0, 1) := by decide +kernel
theorem dX9_token_187 : decode cX9_token 187 = .ok (.iload_n 1, 1) := by decide +kernel
theorem dX9_token_188 : decode cX9_token 188 = .ok (.invokevirtual 144, 3) := by decide +kernel
theorem dX9_token_19 : decode cX9_token 19 = .ok (.bipush 9, 2) := by decide +kernel
theorem dX9_token_191 : decode cX9_token 191 = .ok (.ifCond .eq 36, 3) := by decide +kernel
theorem dX9_token_194 : decode cX9_token 194 = .ok (.aload_n 0, 1) := by decide +kernel
theorem dX9_token_195 : decode cX9_token 195 = .ok (.iload_n 2, 1) := by decide +kernel
theorem dX9_token_196 : decode cX9_token 196 = .ok (.invokevirtual 144, 3) := by decide +kernel
theorem dX9_token_199 : decode cX9_token 199 = .ok (.ifCond .eq 9, 3) := by decide +kernel
theorem dX9_token_202 : decode cX9_token 202 = .ok (.iinc 2 1, 3) := by decide +kernel
theorem dX9_token_205 : decode cX9_token 205 = .ok (.goto (-11), 3) := by decide +kernel
theorem dX9_token_208 : decode cX9_token 208 = .ok (.aload_n 0, 1) := by decide +kernel
theorem dX9_token_209 : decode cX9_token 209 = .ok (.iload_n 2, 1) := by decide +kernel
theorem dX9_token_21 : decode cX9_token 21 = .ok (.if_icmp .eq 36, 3) := by decide +kernel
theorem dX9_token_210 : decode cX9_token 210 = .ok (.iload_n 1, 1) := by decide +kernel
theorem dX9_token_211 : decode cX9_token 211 = .ok (.isub, 1) := by decide +kernel
theorem dX9_token_212 : decode cX9_token 212 = .ok (.iconst 3, 1) := by decide +kernel
theorem dX9_token_213 : decode cX9_token 213 = .ok (.if_icmp .le 7, 3) := by decide +kernel
theorem dX9_token_216 : decode cX9_token 216 = .ok (.iconst 5, 1) := by decide +kernel
theorem dX9_token_217 : decode cX9_token 217 = .ok (.goto 4, 3) := by decide +kernel
theorem dX9_token_220 : decode cX9_token 220 = .ok (.iconst 2, 1) := by decide +kernel
theorem dX9_token_221 : decode cX9_token 221 = .ok (.putfield 137, 3) := by decide +kernel
theorem dX9_token_224 : decode cX9_token 224 = .ok (.goto 42, 3) := by decide +kernel
theorem dX9_token_227 : decode cX9_token 227 = .ok (.aload_n 0, 1) := by decide +kernel
theorem dX9_token_228 : decode cX9_token 228 = .ok (.iload_n 3, 1) := by decide +kernel
theorem dX9_token_229 : decode cX9_token 229 = .ok (.bipush 58, 2) := by decide +kernel
theorem dX9_token_231 : decode cX9_token 231 = .ok (.if_icmp .eq 21, 3) := by decide +kernel
theorem dX9_token_234 : decode cX9_token 234 = .ok (.iload_n 3, 1) := by decide +kernel
theorem dX9_token_235 : decode cX9_token 235 = .ok (.bipush 59, 2) := by decide +kernel
theorem dX9_token_237 : decode cX9_token 237 = .ok (.if_icmp .eq 15, 3) := by decide +kernel
theorem dX9_token_24 : decode cX9_token 24 = .ok (.aload_n 0, 1) := by decide +kernel
theorem dX9_token_240 : decode cX9_token 240 = .ok (.iload_n 3, 1) := by decide +kernel
theorem dX9_token_241 : decode cX9_token 241 = .ok (.bipush 61, 2) := by decide +kernel
theorem dX9_token_243 : decode cX9_token 243 = .ok (.if_icmp .eq 9, 3) := by decide +kernel
theorem dX9_token_246 : decode cX9_token 246 = .ok (.iload_n 3, 1) := by decide +kernel
theorem dX9_token_247 : decode cX9_token 247 = .ok (.bipush 45, 2) := by decide +kernel
theorem dX9_token_249 : decode cX9_token 249 = .ok (.if_icmp .ne 7, 3) := by decide +kernel
theorem dX9_token_25 : decode cX9_token 25 = .ok (.getfield 88, 3) := by decide +kernel
theorem dX9_token_252 : decode cX9_token 252 = .ok (.iconst 3, 1) := by decide +kernel
theorem dX9_token_253 : decode cX9_token 253 = .ok (.goto 4, 3) := by decide +kernel
theorem dX9_token_256 : decode cX9_token 256 = .ok (.iconst 5, 1) := by decide +kernel
theorem dX9_token_257 : decode cX9_token 257 = .ok (.putfield 137, 3) := by decide +kernel
theorem dX9_token_260 : decode cX9_token 260 = .ok (.aload_n 0, 1) := by decide +kernel
theorem dX9_token_261 : decode cX9_token 261 = .ok (.iload_n 3, 1) := by decide +kernel
theorem dX9_token_262 : decode cX9_token 262 = .ok (.i2l, 1) := by decide +kernel
theorem dX9_token_263 : decode cX9_token 263 = .ok (.putfield 133, 3) := by decide +kernel
theorem dX9_token_266 : decode cX9_token 266 = .ok (.aload_n 0, 1) := by decide +kernel
theorem dX9_token_267 : decode cX9_token 267 = .ok (.iload_n 2, 1) := by decide +kernel
theorem dX9_token_268 : decode cX9_token 268 = .ok (.putfield 127, 3) := by decide +kernel
theorem dX9_token_271 : decode cX9_token 271 = .ok (.return_, 1) := by decide +kernel
theorem dX9_token_28 : decode cX9_token 28 = .ok (.iload_n 1, 1) := by decide +kernel
theorem dX9_token_29 : decode cX9_token 29 = .ok (.baload, 1) := by decide +kernel
theorem dX9_token_30 : decode cX9_token 30 = .ok (.bipush 10, 2) := by decide +kernel
theorem dX9_token_32 : decode cX9_token 32 = .ok (.if_icmp .eq 25, 3) := by decide +kernel
theorem dX9_token_35 : decode cX9_token 35 = .ok (.aload_n 0, 1) := by decide +kernel
theorem dX9_token_36 : decode cX9_token 36 = .ok (.getfield 88, 3) := by decide +kernel
theorem dX9_token_39 : decode cX9_token 39 = .ok (.iload_n 1, 1) := by decide +kernel
theorem dX9_token_4 : decode cX9_token 4 = .ok (.istore_n 1, 1) := by decide +kernel
theorem dX9_token_40 : decode cX9_token 40 = .ok (.baload, 1) := by decide +kernel
theorem dX9_token_41 : decode cX9_token 41 = .ok (.bipush 13, 2) := by decide +kernel
theorem dX9_token_43 : decode cX9_token 43 = .ok (.if_icmp .eq 14, 3) := by decide +kernel
theorem dX9_token_46 : decode cX9_token 46 = .ok (.aload_n 0, 1) := by decide +kernel
theorem dX9_token_47 : decode cX9_token 47 = .ok (.getfield 88, 3) := by decide +kernel
theorem dX9_token_5 : decode cX9_token 5 = .ok (.iload_n 1, 1) := by decide +kernel
theorem dX9_token_50 : decode cX9_token 50 = .ok (.iload_n 1, 1) := by decide +kernel
theorem dX9_token_51 : decode cX9_token 51 = .ok (.baload, 1) := by decide +kernel
theorem dX9_token_52 : decode cX9_token 52 = .ok (.bipush 32, 2) := by decide +kernel
theorem dX9_token_54 : decode cX9_token 54 = .ok (.if_icmp .ne 9, 3) := by decide +kernel
theorem dX9_token_57 : decode cX9_token 57 = .ok (.iinc 1 1, 3) := by decide +kernel
theorem dX9_token_6 : decode cX9_token 6 = .ok (.aload_n 0, 1) := by decide +kernel
theorem dX9_token_60 : decode cX9_token 60 = .ok (.goto (-55), 3) := by decide +kernel
theorem dX9_token_63 : decode cX9_token 63 = .ok (.aload_n 0, 1) := by decide +kernel
theorem dX9_token_64 : decode cX9_token 64 = .ok (.iload_n 1, 1) := by decide +kernel
theorem dX9_token_65 : decode cX9_token 65 = .ok (.putfield 130, 3) := by decide +kernel
theorem dX9_token_68 : decode cX9_token 68 = .ok (.iload_n 1, 1) := by decide +kernel
theorem dX9_token_69 : decode cX9_token 69 = .ok (.iconst 1, 1) := by decide +kernel
theorem dX9_token_7 : decode cX9_token 7 = .ok (.getfield 116, 3) := by decide +kernel
theorem dX9_token_70 : decode cX9_token 70 = .ok (.iadd, 1) := by decide +kernel
theorem dX9_token_71 : decode cX9_token 71 = .ok (.istore_n 2, 1) := by decide +kernel
theorem dX9_token_72 : decode cX9_token 72 = .ok (.aload_n 0, 1) := by decide +kernel
theorem dX9_token_73 : decode cX9_token 73 = .ok (.iload_n 1, 1) := by decide +kernel
theorem dX9_token_74 : decode cX9_token 74 = .ok (.invokevirtual 123, 3) := by decide +kernel
theorem dX9_token_77 : decode cX9_token 77 = .ok (.istore_n 3, 1) := by decide +kernel
theorem dX9_token_78 : decode cX9_token 78 = .ok (.aload_n 0, 1) := by decide +kernel
theorem dX9_token_79 : decode cX9_token 79 = .ok (.lconst 0, 1) := by decide +kernel
theorem dX9_token_80 : decode cX9_token 80 = .ok (.putfield 133, 3) := by decide +kernel
theorem dX9_token_83 : decode cX9_token 83 = .ok (.iload_n 1, 1) := by decide +kernel
theorem dX9_token_84 : decode cX9_token 84 = .ok (.aload_n 0, 1) := by decide +kernel
theorem dX9_token_85 : decode cX9_token 85 = .ok (.getfield 116, 3) := by decide +kernel
theorem dX9_token_88 : decode cX9_token 88 = .ok (.if_icmp .lt 13, 3) := by decide +kernel
theorem dX9_token_91 : decode cX9_token 91 = .ok (.aload_n 0, 1) := by decide +kernel
theorem dX9_token_92 : decode cX9_token 92 = .ok (.iconst 0, 1) := by decide +kernel
theorem dX9_token_93 : decode cX9_token 93 = .ok (.putfield 137, 3) := by decide +kernel
theorem dX9_token_96 : decode cX9_token 96 = .ok (.iload_n 1, 1) := by decide +kernel
theorem dX9_token_97 : decode cX9_token 97 = .ok (.istore_n 2, 1) := by decide +kernel
theorem dX9_token_98 : decode cX9_token 98 = .ok (.goto 168, 3) := by decide +kernel