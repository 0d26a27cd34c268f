theorem dX9_explore_0 : decode cX9_explore 0 = .ok (.aload_n 0, 1) := by decide +kernel
theorem dX9_explore_1 : decode cX9_explore 1 = .ok (.getfield 66, 3) := by decide +kernel
theorem dX9_explore_101 : decode cX9_explore 101 = .ok (.iload 5, 2) := by decide +kernel
theorem dX9_explore_103 : decode cX9_explore 103 = .ok (.ifCond .eq 48, 3) := by decide +kernel
theorem dX9_explore_106 : decode cX9_explore 106 = .ok (.aload_n 0, 1) := by decide +kernel
theorem dX9_explore_107 : decode cX9_explore 107 = .ok (.iload_n 1, 1) := by decide +kernel
theorem dX9_explore_108 : decode cX9_explore 108 = .ok (.iload 6, 2) := by decide +kernel
theorem dX9_explore_11 : decode cX9_explore 11 = .ok (.iload_n 1, 1) := by decide +kernel
theorem dX9_explore_110 : decode cX9_explore 110 = .ok (.invokevirtual 307, 3) := by decide +kernel
theorem dX9_explore_113 : decode cX9_explore 113 = .ok (.aload_n 0, 1) := by decide +kernel
theorem dX9_explore_114 : decode cX9_explore 114 = .ok (.iload_n 2, 1) := by decide +kernel
theorem dX9_explore_115 : decode cX9_explore 115 = .ok (.iload_n 3, 1) := by decide +kernel
theorem dX9_explore_116 : decode cX9_explore 116 = .ok (.iload 7, 2) := by decide +kernel
theorem dX9_explore_118 : decode cX9_explore 118 = .ok (.invokevirtual 310, 3) := by decide +kernel
theorem dX9_explore_12 : decode cX9_explore 12 = .ok (.iconst 0, 1) := by decide +kernel
theorem dX9_explore_121 : decode cX9_explore 121 = .ok (.ifCond .eq 24, 3) := by decide +kernel
theorem dX9_explore_124 : decode cX9_explore 124 = .ok (.aload_n 0, 1) := by decide +kernel
theorem dX9_explore_125 : decode cX9_explore 125 = .ok (.iload_n 2, 1) := by decide +kernel
theorem dX9_explore_126 : decode cX9_explore 126 = .ok (.iload_n 3, 1) := by decide +kernel
theorem dX9_explore_127 : decode cX9_explore 127 = .ok (.iload 7, 2) := by decide +kernel
theorem dX9_explore_129 : decode cX9_explore 129 = .ok (.iload 4, 2) := by decide +kernel
theorem dX9_explore_13 : decode cX9_explore 13 = .ok (.bastore, 1) := by decide +kernel
theorem dX9_explore_131 : decode cX9_explore 131 = .ok (.invokevirtual 313, 3) := by decide +kernel
theorem dX9_explore_134 : decode cX9_explore 134 = .ok (.aload_n 0, 1) := by decide +kernel
theorem dX9_explore_135 : decode cX9_explore 135 = .ok (.iload_n 1, 1) := by decide +kernel
theorem dX9_explore_136 : decode cX9_explore 136 = .ok (.iload 6, 2) := by decide +kernel
theorem dX9_explore_138 : decode cX9_explore 138 = .ok (.iload 7, 2) := by decide +kernel
theorem dX9_explore_14 : decode cX9_explore 14 = .ok (.aload_n 0, 1) := by decide +kernel
theorem dX9_explore_140 : decode cX9_explore 140 = .ok (.invokevirtual 303, 3) := by decide +kernel
theorem dX9_explore_143 : decode cX9_explore 143 = .ok (.istore 5, 2) := by decide +kernel
theorem dX9_explore_145 : decode cX9_explore 145 = .ok (.iinc 7 1, 3) := by decide +kernel
theorem dX9_explore_148 : decode cX9_explore 148 = .ok (.goto (-54), 3) := by decide +kernel
theorem dX9_explore_15 : decode cX9_explore 15 = .ok (.getfield 59, 3) := by decide +kernel
theorem dX9_explore_151 : decode cX9_explore 151 = .ok (.iinc 6 1, 3) := by decide +kernel
theorem dX9_explore_154 : decode cX9_explore 154 = .ok (.goto (-79), 3) := by decide +kernel
theorem dX9_explore_157 : decode cX9_explore 157 = .ok (.aload_n 0, 1) := by decide +kernel
theorem dX9_explore_158 : decode cX9_explore 158 = .ok (.getfield 62, 3) := by decide +kernel
theorem dX9_explore_161 : decode cX9_explore 161 = .ok (.iload_n 1, 1) := by decide +kernel
theorem dX9_explore_162 : decode cX9_explore 162 = .ok (.iload 5, 2) := by decide +kernel
theorem dX9_explore_164 : decode cX9_explore 164 = .ok (.ifCond .ne 7, 3) := by decide +kernel
theorem dX9_explore_167 : decode cX9_explore 167 = .ok (.iconst 1, 1) := by decide +kernel
theorem dX9_explore_168 : decode cX9_explore 168 = .ok (.goto 4, 3) := by decide +kernel
theorem dX9_explore_171 : decode cX9_explore 171 = .ok (.iconst 0, 1) := by decide +kernel
theorem dX9_explore_172 : decode cX9_explore 172 = .ok (.bastore, 1) := by decide +kernel
theorem dX9_explore_173 : decode cX9_explore 173 = .ok (.iconst 0, 1) := by decide +kernel
theorem dX9_explore_174 : decode cX9_explore 174 = .ok (.istore 6, 2) := by decide +kernel
theorem dX9_explore_176 : decode cX9_explore 176 = .ok (.iload 6, 2) := by decide +kernel
theorem dX9_explore_178 : decode cX9_explore 178 = .ok (.aload_n 0, 1) := by decide +kernel
theorem dX9_explore_179 : decode cX9_explore 179 = .ok (.getfield 59, 3) := by decide +kernel
theorem dX9_explore_18 : decode cX9_explore 18 = .ok (.iload_n 1, 1) := by decide +kernel
theorem dX9_explore_182 : decode cX9_explore 182 = .ok (.iload_n 1, 1) := by decide +kernel
theorem dX9_explore_183 : decode cX9_explore 183 = .ok (.iaload, 1) := by decide +kernel
theorem dX9_explore_184 : decode cX9_explore 184 = .ok (.if_icmp .ge 66, 3) := by decide +kernel
theorem dX9_explore_187 : decode cX9_explore 187 = .ok (.iload 5, 2) := by decide +kernel
theorem dX9_explore_189 : decode cX9_explore 189 = .ok (.ifCond .eq 61, 3) := by decide +kernel
theorem dX9_explore_19 : decode cX9_explore 19 = .ok (.iconst 0, 1) := by decide +kernel
theorem dX9_explore_192 : decode cX9_explore 192 = .ok (.aload_n 0, 1) := by decide +kernel
theorem dX9_explore_193 : decode cX9_explore 193 = .ok (.iload_n 2, 1) := by decide +kernel
theorem dX9_explore_194 : decode cX9_explore 194 = .ok (.aload_n 0, 1) := by decide +kernel
theorem dX9_explore_195 : decode cX9_explore 195 = .ok (.getfield 44, 3) := by decide +kernel
theorem dX9_explore_198 : decode cX9_explore 198 = .ok (.sipush 3000, 3) := by decide +kernel
theorem dX9_explore_20 : decode cX9_explore 20 = .ok (.iastore, 1) := by decide +kernel
theorem dX9_explore_201 : decode cX9_explore 201 = .ok (.iload_n 1, 1) := by decide +kernel
theorem dX9_explore_202 : decode cX9_explore 202 = .ok (.imul, 1) := by decide +kernel
theorem dX9_explore_203 : decode cX9_explore 203 = .ok (.iload 6, 2) := by decide +kernel
theorem dX9_explore_205 : decode cX9_explore 205 = .ok (.iadd, 1) := by decide +kernel
theorem dX9_explore_206 : decode cX9_explore 206 = .ok (.bipush 58, 2) := by decide +kernel
theorem dX9_explore_208 : decode cX9_explore 208 = .ok (.imul, 1) := by decide +kernel
theorem dX9_explore_209 : decode cX9_explore 209 = .ok (.invokevirtual 317, 3) := by decide +kernel
theorem dX9_explore_21 : decode cX9_explore 21 = .ok (.aload_n 0, 1) := by decide +kernel
theorem dX9_explore_212 : decode cX9_explore 212 = .ok (.ifCond .eq 32, 3) := by decide +kernel
theorem dX9_explore_215 : decode cX9_explore 215 = .ok (.aload_n 0, 1) := by decide +kernel
theorem dX9_explore_216 : decode cX9_explore 216 = .ok (.getfield 69, 3) := by decide +kernel
theorem dX9_explore_219 : decode cX9_explore 219 = .ok (.sipush 3000, 3) := by decide +kernel
theorem dX9_explore_22 : decode cX9_explore 22 = .ok (.getfield 72, 3) := by decide +kernel
theorem dX9_explore_222 : decode cX9_explore 222 = .ok (.iload_n 1, 1) := by decide +kernel
theorem dX9_explore_223 : decode cX9_explore 223 = .ok (.imul, 1) := by decide +kernel
theorem dX9_explore_224 : decode cX9_explore 224 = .ok (.aload_n 0, 1) := by decide +kernel
theorem dX9_explore_225 : decode cX9_explore 225 = .ok (.getfield 72, 3) := by decide +kernel
theorem dX9_explore_228 : decode cX9_explore 228 = .ok (.iload_n 1, 1) := by decide +kernel
theorem dX9_explore_229 : decode cX9_explore 229 = .ok (.iaload, 1) := by decide +kernel
theorem dX9_explore_230 : decode cX9_explore 230 = .ok (.iadd, 1) := by decide +kernel
theorem dX9_explore_231 : decode cX9_explore 231 = .ok (.iload 6, 2) := by decide +kernel
theorem dX9_explore_233 : decode cX9_explore 233 = .ok (.iastore, 1) := by decide +kernel
theorem dX9_explore_234 : decode cX9_explore 234 = .ok (.aload_n 0, 1) := by decide +kernel
theorem dX9_explore_235 : decode cX9_explore 235 = .ok (.getfield 72, 3) := by decide +kernel
theorem dX9_explore_238 : decode cX9_explore 238 = .ok (.iload_n 1, 1) := by decide +kernel
theorem dX9_explore_239 : decode cX9_explore 239 = .ok (.dup2, 1) := by decide +kernel
theorem dX9_explore_240 : decode cX9_explore 240 = .ok (.iaload, 1) := by decide +kernel
theorem dX9_explore_241 : decode cX9_explore 241 = .ok (.iconst 1, 1) := by decide +kernel
theorem dX9_explore_242 : decode cX9_explore 242 = .ok (.iadd, 1) := by decide +kernel
theorem dX9_explore_243 : decode cX9_explore 243 = .ok (.iastore, 1) := by decide +kernel
theorem dX9_explore_244 : decode cX9_explore 244 = .ok (.iinc 6 1, 3) := by decide +kernel
theorem dX9_explore_247 : decode cX9_explore 247 = .ok (.goto (-71), 3) := by decide +kernel
theorem dX9_explore_25 : decode cX9_explore 25 = .ok (.iload_n 1, 1) := by decide +kernel
theorem dX9_explore_250 : decode cX9_explore 250 = .ok (.aload_n 0, 1) := by decide +kernel
theorem dX9_explore_251 : decode cX9_explore 251 = .ok (.iload_n 1, 1) := by decide +kernel
theorem dX9_explore_252 : decode cX9_explore 252 = .ok (.invokevirtual 321, 3) := by decide +kernel
theorem dX9_explore_255 : decode cX9_explore 255 = .ok (.return_, 1) := by decide +kernel
theorem dX9_explore_26 : decode cX9_explore 26 = .ok (.iconst 0, 1) := by decide +kernel
theorem dX9_explore_27 : decode cX9_explore 27 = .ok (.iastore, 1) := by decide +kernel
theorem dX9_explore_28 : decode cX9_explore 28 = .ok (.iconst 0, 1) := by decide +kernel
theorem dX9_explore_29 : decode cX9_explore 29 = .ok (.istore 5, 2) := by decide +kernel
theorem dX9_explore_31 : decode cX9_explore 31 = .ok (.iload 5, 2) := by decide +kernel
theorem dX9_explore_33 : decode cX9_explore 33 = .ok (.sipush 4096, 3) := by decide +kernel
theorem dX9_explore_36 : decode cX9_explore 36 = .ok (.if_icmp .ge 23, 3) := by decide +kernel
theorem dX9_explore_39 : decode cX9_explore 39 = .ok (.aload_n 0, 1) := by decide +kernel
theorem dX9_explore_4 : decode cX9_explore 4 = .ok (.iload_n 1, 1) := by decide +kernel
theorem dX9_explore_40 : decode cX9_explore 40 = .ok (.getfield 56, 3) := by decide +kernel
theorem dX9_explore_43 : decode cX9_explore 43 = .ok (.sipush 4096, 3) := by decide +kernel
theorem dX9_explore_46 : decode cX9_explore 46 = .ok (.iload_n 1, 1) := by decide +kernel
theorem dX9_explore_47 : decode cX9_explore 47 = .ok (.imul, 1) := by decide +kernel
theorem dX9_explore_48 : decode cX9_explore 48 = .ok (.iload 5, 2) := by decide +kernel
theorem dX9_explore_5 : decode cX9_explore 5 = .ok (.iconst 1, 1) := by decide +kernel
theorem dX9_explore_50 : decode cX9_explore 50 = .ok (.iadd, 1) := by decide +kernel
theorem dX9_explore_51 : decode cX9_explore 51 = .ok (.iconst (-1), 1) := by decide +kernel
theorem dX9_explore_52 : decode cX9_explore 52 = .ok (.iastore, 1) := by decide +kernel
theorem dX9_explore_53 : decode cX9_explore 53 = .ok (.iinc 5 1, 3) := by decide +kernel
theorem dX9_explore_56 : decode cX9_explore 56 = .ok (.goto (-25), 3) := by decide +kernel
theorem dX9_explore_59 : decode cX9_explore 59 = .ok (.aload_n 0, 1) := by decide +kernel
theorem dX9_explore_6 : decode cX9_explore 6 = .ok (.bastore, 1) := by decide +kernel
theorem dX9_explore_60 : decode cX9_explore 60 = .ok (.invokevirtual 300, 3) := by decide +kernel
theorem dX9_explore_63 : decode cX9_explore 63 = .ok (.aload_n 0, 1) := by decide +kernel
theorem dX9_explore_64 : decode cX9_explore 64 = .ok (.iload_n 1, 1) := by decide +kernel
theorem dX9_explore_65 : decode cX9_explore 65 = .ok (.iconst (-1), 1) := by decide +kernel
theorem dX9_explore_66 : decode cX9_explore 66 = .ok (.iconst (-1), 1) := by decide +kernel
theorem dX9_explore_67 : decode cX9_explore 67 = .ok (.invokevirtual 303, 3) := by decide +kernel
theorem dX9_explore_7 : decode cX9_explore 7 = .ok (.aload_n 0, 1) := by decide +kernel
theorem dX9_explore_70 : decode cX9_explore 70 = .ok (.istore 5, 2) := by decide +kernel
theorem dX9_explore_72 : decode cX9_explore 72 = .ok (.iconst 0, 1) := by decide +kernel
theorem dX9_explore_73 : decode cX9_explore 73 = .ok (.istore 6, 2) := by decide +kernel
theorem dX9_explore_75 : decode cX9_explore 75 = .ok (.iload 6, 2) := by decide +kernel
theorem dX9_explore_77 : decode cX9_explore 77 = .ok (.aload_n 0, 1) := by decide +kernel
theorem dX9_explore_78 : decode cX9_explore 78 = .ok (.getfield 59, 3) := by decide +kernel
theorem dX9_explore_8 : decode cX9_explore 8 = .ok (.getfield 62, 3) := by decide +kernel
theorem dX9_explore_81 : decode cX9_explore 81 = .ok (.iload_n 1, 1) := by decide +kernel
theorem dX9_explore_82 : decode cX9_explore 82 = .ok (.iaload, 1) := by decide +kernel
theorem dX9_explore_83 : decode cX9_explore 83 = .ok (.if_icmp .ge 74, 3) := by decide +kernel
theorem dX9_explore_86 : decode cX9_explore 86 = .ok (.iload 5, 2) := by decide +kernel
theorem dX9_explore_88 : decode cX9_explore 88 = .ok (.ifCond .eq 69, 3) := by decide +kernel
theorem dX9_explore_91 : decode cX9_explore 91 = .ok (.iconst 0, 1) := by decide +kernel
theorem dX9_explore_92 : decode cX9_explore 92 = .ok (.istore 7, 2) := by decide +kernel
theorem dX9_explore_94 : decode cX9_explore 94 = .ok (.iload 7, 2) := by decide +kernel
theorem dX9_explore_96 : decode cX9_explore 96 = .ok (.bipush 6, 2) := by decide +kernel
theorem dX9_explore_98 : decode cX9_explore 98 = .ok (.if_icmp .ge 53, 3) := by decide +kernel