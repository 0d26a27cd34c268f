theorem dX9_init_0 : decode cX9_init 0 = .ok (.aload_n 0, 1) := by decide +kernel
theorem dX9_init_1 : decode cX9_init 1 = .ok (.invokespecial 1, 3) := by decide +kernel
theorem dX9_init_4 : decode cX9_init 4 = .ok (.aload_n 0, 1) := by decide +kernel
theorem dX9_init_5 : decode cX9_init 5 = .ok (.iconst 3, 1) := by decide +kernel
theorem dX9_init_6 : decode cX9_init 6 = .ok (.newarray .int, 2) := by decide +kernel
theorem dX9_init_8 : decode cX9_init 8 = .ok (.putfield 7, 3) := by decide +kernel
theorem dX9_init_11 : decode cX9_init 11 = .ok (.aload_n 0, 1) := by decide +kernel
theorem dX9_init_12 : decode cX9_init 12 = .ok (.bipush 9, 2) := by decide +kernel
theorem dX9_init_14 : decode cX9_init 14 = .ok (.newarray .int, 2) := by decide +kernel
theorem dX9_init_16 : decode cX9_init 16 = .ok (.putfield 13, 3) := by decide +kernel
theorem dX9_init_19 : decode cX9_init 19 = .ok (.aload_n 0, 1) := by decide +kernel
theorem dX9_init_20 : decode cX9_init 20 = .ok (.bipush 108, 2) := by decide +kernel
theorem dX9_init_22 : decode cX9_init 22 = .ok (.newarray .int, 2) := by decide +kernel
theorem dX9_init_24 : decode cX9_init 24 = .ok (.putfield 16, 3) := by decide +kernel
theorem dX9_init_27 : decode cX9_init 27 = .ok (.aload_n 0, 1) := by decide +kernel
theorem dX9_init_28 : decode cX9_init 28 = .ok (.bipush 108, 2) := by decide +kernel
theorem dX9_init_30 : decode cX9_init 30 = .ok (.newarray .int, 2) := by decide +kernel
theorem dX9_init_32 : decode cX9_init 32 = .ok (.putfield 19, 3) := by decide +kernel
theorem dX9_init_35 : decode cX9_init 35 = .ok (.aload_n 0, 1) := by decide +kernel
theorem dX9_init_36 : decode cX9_init 36 = .ok (.bipush 108, 2) := by decide +kernel
theorem dX9_init_38 : decode cX9_init 38 = .ok (.newarray .int, 2) := by decide +kernel
theorem dX9_init_40 : decode cX9_init 40 = .ok (.putfield 22, 3) := by decide +kernel
theorem dX9_init_43 : decode cX9_init 43 = .ok (.aload_n 0, 1) := by decide +kernel
theorem dX9_init_44 : decode cX9_init 44 = .ok (.bipush 108, 2) := by decide +kernel
theorem dX9_init_46 : decode cX9_init 46 = .ok (.newarray .int, 2) := by decide +kernel
theorem dX9_init_48 : decode cX9_init 48 = .ok (.putfield 25, 3) := by decide +kernel
theorem dX9_init_51 : decode cX9_init 51 = .ok (.aload_n 0, 1) := by decide +kernel
theorem dX9_init_52 : decode cX9_init 52 = .ok (.bipush 108, 2) := by decide +kernel
theorem dX9_init_54 : decode cX9_init 54 = .ok (.newarray .int, 2) := by decide +kernel
theorem dX9_init_56 : decode cX9_init 56 = .ok (.putfield 28, 3) := by decide +kernel
theorem dX9_init_59 : decode cX9_init 59 = .ok (.aload_n 0, 1) := by decide +kernel
theorem dX9_init_60 : decode cX9_init 60 = .ok (.bipush 108, 2) := by decide +kernel
theorem dX9_init_62 : decode cX9_init 62 = .ok (.newarray .int, 2) := by decide +kernel
theorem dX9_init_64 : decode cX9_init 64 = .ok (.putfield 31, 3) := by decide +kernel
theorem dX9_init_67 : decode cX9_init 67 = .ok (.aload_n 0, 1) := by decide +kernel
theorem dX9_init_68 : decode cX9_init 68 = .ok (.bipush 108, 2) := by decide +kernel
theorem dX9_init_70 : decode cX9_init 70 = .ok (.newarray .int, 2) := by decide +kernel
theorem dX9_init_72 : decode cX9_init 72 = .ok (.putfield 34, 3) := by decide +kernel
theorem dX9_init_75 : decode cX9_init 75 = .ok (.aload_n 0, 1) := by decide +kernel
theorem dX9_init_76 : decode cX9_init 76 = .ok (.bipush 108, 2) := by decide +kernel
theorem dX9_init_78 : decode cX9_init 78 = .ok (.newarray .int, 2) := by decide +kernel
theorem dX9_init_80 : decode cX9_init 80 = .ok (.putfield 37, 3) := by decide +kernel
theorem dX9_init_83 : decode cX9_init 83 = .ok (.aload_n 0, 1) := by decide +kernel
theorem dX9_init_84 : decode cX9_init 84 = .ok (.bipush 12, 2) := by decide +kernel
theorem dX9_init_86 : decode cX9_init 86 = .ok (.newarray .int, 2) := by decide +kernel
theorem dX9_init_88 : decode cX9_init 88 = .ok (.putfield 40, 3) := by decide +kernel
theorem dX9_init_91 : decode cX9_init 91 = .ok (.aload_n 0, 1) := by decide +kernel
theorem dX9_init_92 : decode cX9_init 92 = .ok (.ldc 43, 2) := by decide +kernel
theorem dX9_init_94 : decode cX9_init 94 = .ok (.newarray .int, 2) := by decide +kernel
theorem dX9_init_96 : decode cX9_init 96 = .ok (.putfield 44, 3) := by decide +kernel
theorem dX9_init_99 : decode cX9_init 99 = .ok (.aload_n 0, 1) := by decide +kernel
theorem dX9_init_100 : decode cX9_init 100 = .ok (.sipush 9000, 3) := by decide +kernel
theorem dX9_init_103 : decode cX9_init 103 = .ok (.newarray .int, 2) := by decide +kernel
theorem dX9_init_105 : decode cX9_init 105 = .ok (.putfield 47, 3) := by decide +kernel
theorem dX9_init_108 : decode cX9_init 108 = .ok (.aload_n 0, 1) := by decide +kernel
theorem dX9_init_109 : decode cX9_init 109 = .ok (.sipush 9000, 3) := by decide +kernel
theorem dX9_init_112 : decode cX9_init 112 = .ok (.newarray .int, 2) := by decide +kernel
theorem dX9_init_114 : decode cX9_init 114 = .ok (.putfield 50, 3) := by decide +kernel
theorem dX9_init_117 : decode cX9_init 117 = .ok (.aload_n 0, 1) := by decide +kernel
theorem dX9_init_118 : decode cX9_init 118 = .ok (.sipush 9000, 3) := by decide +kernel
theorem dX9_init_121 : decode cX9_init 121 = .ok (.newarray .int, 2) := by decide +kernel
theorem dX9_init_123 : decode cX9_init 123 = .ok (.putfield 53, 3) := by decide +kernel
theorem dX9_init_126 : decode cX9_init 126 = .ok (.aload_n 0, 1) := by decide +kernel
theorem dX9_init_127 : decode cX9_init 127 = .ok (.sipush 12288, 3) := by decide +kernel
theorem dX9_init_130 : decode cX9_init 130 = .ok (.newarray .int, 2) := by decide +kernel
theorem dX9_init_132 : decode cX9_init 132 = .ok (.putfield 56, 3) := by decide +kernel
theorem dX9_init_135 : decode cX9_init 135 = .ok (.aload_n 0, 1) := by decide +kernel
theorem dX9_init_136 : decode cX9_init 136 = .ok (.iconst 3, 1) := by decide +kernel
theorem dX9_init_137 : decode cX9_init 137 = .ok (.newarray .int, 2) := by decide +kernel
theorem dX9_init_139 : decode cX9_init 139 = .ok (.putfield 59, 3) := by decide +kernel
theorem dX9_init_142 : decode cX9_init 142 = .ok (.aload_n 0, 1) := by decide +kernel
theorem dX9_init_143 : decode cX9_init 143 = .ok (.iconst 3, 1) := by decide +kernel
theorem dX9_init_144 : decode cX9_init 144 = .ok (.newarray .boolean, 2) := by decide +kernel
theorem dX9_init_146 : decode cX9_init 146 = .ok (.putfield 62, 3) := by decide +kernel
theorem dX9_init_149 : decode cX9_init 149 = .ok (.aload_n 0, 1) := by decide +kernel
theorem dX9_init_150 : decode cX9_init 150 = .ok (.iconst 3, 1) := by decide +kernel
theorem dX9_init_151 : decode cX9_init 151 = .ok (.newarray .boolean, 2) := by decide +kernel
theorem dX9_init_153 : decode cX9_init 153 = .ok (.putfield 66, 3) := by decide +kernel
theorem dX9_init_156 : decode cX9_init 156 = .ok (.aload_n 0, 1) := by decide +kernel
theorem dX9_init_157 : decode cX9_init 157 = .ok (.sipush 9000, 3) := by decide +kernel
theorem dX9_init_160 : decode cX9_init 160 = .ok (.newarray .int, 2) := by decide +kernel
theorem dX9_init_162 : decode cX9_init 162 = .ok (.putfield 69, 3) := by decide +kernel
theorem dX9_init_165 : decode cX9_init 165 = .ok (.aload_n 0, 1) := by decide +kernel
theorem dX9_init_166 : decode cX9_init 166 = .ok (.iconst 3, 1) := by decide +kernel
theorem dX9_init_167 : decode cX9_init 167 = .ok (.newarray .int, 2) := by decide +kernel
theorem dX9_init_169 : decode cX9_init 169 = .ok (.putfield 72, 3) := by decide +kernel
theorem dX9_init_172 : decode cX9_init 172 = .ok (.aload_n 0, 1) := by decide +kernel
theorem dX9_init_173 : decode cX9_init 173 = .ok (.bipush 58, 2) := by decide +kernel
theorem dX9_init_175 : decode cX9_init 175 = .ok (.newarray .int, 2) := by decide +kernel
theorem dX9_init_177 : decode cX9_init 177 = .ok (.putfield 75, 3) := by decide +kernel
theorem dX9_init_180 : decode cX9_init 180 = .ok (.aload_n 0, 1) := by decide +kernel
theorem dX9_init_181 : decode cX9_init 181 = .ok (.bipush 58, 2) := by decide +kernel
theorem dX9_init_183 : decode cX9_init 183 = .ok (.newarray .int, 2) := by decide +kernel
theorem dX9_init_185 : decode cX9_init 185 = .ok (.putfield 78, 3) := by decide +kernel
theorem dX9_init_188 : decode cX9_init 188 = .ok (.aload_n 0, 1) := by decide +kernel
theorem dX9_init_189 : decode cX9_init 189 = .ok (.sipush 2900, 3) := by decide +kernel
theorem dX9_init_192 : decode cX9_init 192 = .ok (.newarray .int, 2) := by decide +kernel
theorem dX9_init_194 : decode cX9_init 194 = .ok (.putfield 81, 3) := by decide +kernel
theorem dX9_init_197 : decode cX9_init 197 = .ok (.aload_n 0, 1) := by decide +kernel
theorem dX9_init_198 : decode cX9_init 198 = .ok (.iconst (-1), 1) := by decide +kernel
theorem dX9_init_199 : decode cX9_init 199 = .ok (.putfield 84, 3) := by decide +kernel
theorem dX9_init_202 : decode cX9_init 202 = .ok (.aload_n 0, 1) := by decide +kernel
theorem dX9_init_203 : decode cX9_init 203 = .ok (.sipush 4000, 3) := by decide +kernel
theorem dX9_init_206 : decode cX9_init 206 = .ok (.newarray .byte, 2) := by decide +kernel
theorem dX9_init_208 : decode cX9_init 208 = .ok (.putfield 88, 3) := by decide +kernel
theorem dX9_init_211 : decode cX9_init 211 = .ok (.aload_n 0, 1) := by decide +kernel
theorem dX9_init_212 : decode cX9_init 212 = .ok (.iconst (-1), 1) := by decide +kernel
theorem dX9_init_213 : decode cX9_init 213 = .ok (.putfield 92, 3) := by decide +kernel
theorem dX9_init_216 : decode cX9_init 216 = .ok (.aload_n 0, 1) := by decide +kernel
theorem dX9_init_217 : decode cX9_init 217 = .ok (.bipush 12, 2) := by decide +kernel
theorem dX9_init_219 : decode cX9_init 219 = .ok (.newarray .int, 2) := by decide +kernel
theorem dX9_init_221 : decode cX9_init 221 = .ok (.putfield 95, 3) := by decide +kernel
theorem dX9_init_224 : decode cX9_init 224 = .ok (.aload_n 0, 1) := by decide +kernel
theorem dX9_init_225 : decode cX9_init 225 = .ok (.iconst (-1), 1) := by decide +kernel
theorem dX9_init_226 : decode cX9_init 226 = .ok (.putfield 98, 3) := by decide +kernel
theorem dX9_init_229 : decode cX9_init 229 = .ok (.aload_n 0, 1) := by decide +kernel
theorem dX9_init_230 : decode cX9_init 230 = .ok (.bipush 64, 2) := by decide +kernel
theorem dX9_init_232 : decode cX9_init 232 = .ok (.newarray .int, 2) := by decide +kernel
theorem dX9_init_234 : decode cX9_init 234 = .ok (.putfield 101, 3) := by decide +kernel
theorem dX9_init_237 : decode cX9_init 237 = .ok (.aload_n 0, 1) := by decide +kernel
theorem dX9_init_238 : decode cX9_init 238 = .ok (.iconst (-1), 1) := by decide +kernel
theorem dX9_init_239 : decode cX9_init 239 = .ok (.putfield 104, 3) := by decide +kernel
theorem dX9_init_242 : decode cX9_init 242 = .ok (.aload_n 0, 1) := by decide +kernel
theorem dX9_init_243 : decode cX9_init 243 = .ok (.iconst 2, 1) := by decide +kernel
theorem dX9_init_244 : decode cX9_init 244 = .ok (.newarray .int, 2) := by decide +kernel
theorem dX9_init_246 : decode cX9_init 246 = .ok (.putfield 107, 3) := by decide +kernel
theorem dX9_init_249 : decode cX9_init 249 = .ok (.aload_n 0, 1) := by decide +kernel
theorem dX9_init_250 : decode cX9_init 250 = .ok (.bipush 16, 2) := by decide +kernel
theorem dX9_init_252 : decode cX9_init 252 = .ok (.newarray .int, 2) := by decide +kernel
theorem dX9_init_254 : decode cX9_init 254 = .ok (.putfield 110, 3) := by decide +kernel
theorem dX9_init_257 : decode cX9_init 257 = .ok (.aload_n 0, 1) := by decide +kernel
theorem dX9_init_258 : decode cX9_init 258 = .ok (.bipush 13, 2) := by decide +kernel
theorem dX9_init_260 : decode cX9_init 260 = .ok (.newarray .int, 2) := by decide +kernel
theorem dX9_init_262 : decode cX9_init 262 = .ok (.putfield 113, 3) := by decide +kernel
theorem dX9_init_265 : decode cX9_init 265 = .ok (.return_, 1) := by decide +kernel
theorem dX9_feed_0 : decode cX9_feed 0 = .ok (.aload_n 0, 1) := by decide +kernel
theorem dX9_feed_1 : decode cX9_feed 1 = .ok (.getfield 116, 3) := by decide +kernel
theorem dX9_feed_4 : decode cX9_feed 4 = .ok (.bipush 20, 2) := by decide +kernel
theorem dX9_feed_6 : decode cX9_feed 6 = .ok (.iadd, 1) := by decide +kernel
theorem dX9_feed_7 : decode cX9_feed 7 = .ok (.sipush 4000, 3) := by decide +kernel
theorem dX9_feed_10 : decode cX9_feed 10 = .ok (.if_icmp .le 5, 3) := by decide +kernel
theorem dX9_feed_15 : decode cX9_feed 15 = .ok (.aload_n 0, 1) := by decide +kernel
theorem dX9_feed_16 : decode cX9_feed 16 = .ok (.iload_n 1, 1) := by decide +kernel
theorem dX9_feed_17 : decode cX9_feed 17 = .ok (.invokevirtual 119, 3) := by decide +kernel
theorem dX9_feed_20 : decode cX9_feed 20 = .ok (.aload_n 0, 1) := by decide +kernel
theorem dX9_feed_21 : decode cX9_feed 21 = .ok (.iload_n 2, 1) := by decide +kernel
theorem dX9_feed_22 : decode cX9_feed 22 = .ok (.invokevirtual 119, 3) := by decide +kernel
theorem dX9_feed_25 : decode cX9_feed 25 = .ok (.aload_n 0, 1) := by decide +kernel
theorem dX9_feed_26 : decode cX9_feed 26 = .ok (.iload_n 3, 1) := by decide +kernel
theorem dX9_feed_27 : decode cX9_feed 27 = .ok (.invokevirtual 119, 3) := by decide +kernel
theorem dX9_feed_30 : decode cX9_feed 30 = .ok (.aload_n 0, 1) := by decide +kernel
theorem dX9_feed_31 : decode cX9_feed 31 = .ok (.iload 4, 2) := by decide +kernel
theorem dX9_feed_33 : decode cX9_feed 33 = .ok (.invokevirtual 119, 3) := by decide +kernel
theorem dX9_feed_36 : decode cX9_feed 36 = .ok (.aload_n 0, 1) := by decide +kernel
theorem dX9_feed_37 : decode cX9_feed 37 = .ok (.iload 5, 2) := by decide +kernel
theorem dX9_feed_39 : decode cX9_feed 39 = .ok (.invokevirtual 119, 3) := by decide +kernel
theorem dX9_feed_42 : decode cX9_feed 42 = .ok (.aload_n 0, 1) := by decide +kernel
theorem dX9_feed_43 : decode cX9_feed 43 = .ok (.getfield 116, 3) := by decide +kernel
theorem dX9_feed_46 : decode cX9_feed 46 = .ok (.ireturn, 1) := by decide +kernel
theorem dX9_byteRow_0 : decode cX9_byteRow 0 = .ok (.iconst 3, 1) := by decide +kernel
theorem dX9_byteRow_1 : decode cX9_byteRow 1 = .ok (.istore_n 2, 1) := by decide +kernel
theorem dX9_byteRow_2 : decode cX9_byteRow 2 = .ok (.iload_n 2, 1) := by decide +kernel
theorem dX9_byteRow_3 : decode cX9_byteRow 3 = .ok (.ifCond .lt 35, 3) := by decide +kernel
theorem dX9_byteRow_6 : decode cX9_byteRow 6 = .ok (.aload_n 0, 1) := by decide +kernel
theorem dX9_byteRow_7 : decode cX9_byteRow 7 = .ok (.getfield 88, 3) := by decide +kernel
theorem dX9_byteRow_10 : decode cX9_byteRow 10 = .ok (.aload_n 0, 1) := by decide +kernel
theorem dX9_byteRow_11 : decode cX9_byteRow 11 = .ok (.getfield 116, 3) := by decide +kernel
theorem dX9_byteRow_14 : decode cX9_byteRow 14 = .ok (.iload_n 1, 1) := by decide +kernel
theorem dX9_byteRow_15 : decode cX9_byteRow 15 = .ok (.bipush 8, 2) := by decide +kernel
theorem dX9_byteRow_17 : decode cX9_byteRow 17 = .ok (.iload_n 2, 1) := by decide +kernel
theorem dX9_byteRow_18 : decode cX9_byteRow 18 = .ok (.imul, 1) := by decide +kernel
theorem dX9_byteRow_19 : decode cX9_byteRow 19 = .ok (.iushr, 1) := by decide +kernel
theorem dX9_byteRow_20 : decode cX9_byteRow 20 = .ok (.i2b, 1) := by decide +kernel
theorem dX9_byteRow_21 : decode cX9_byteRow 21 = .ok (.bastore, 1) := by decide +kernel
theorem dX9_byteRow_22 : decode cX9_byteRow 22 = .ok (.aload_n 0, 1) := by decide +kernel
theorem dX9_byteRow_23 : decode cX9_byteRow 23 = .ok (.dup, 1) := by decide +kernel
theorem dX9_byteRow_24 : decode cX9_byteRow 24 = .ok (.getfield 116, 3) := by decide +kernel
theorem dX9_byteRow_27 : decode cX9_byteRow 27 = .ok (.iconst 1, 1) := by decide +kernel
theorem dX9_byteRow_28 : decode cX9_byteRow 28 = .ok (.iadd, 1) := by decide +kernel
theorem dX9_byteRow_29 : decode cX9_byteRow 29 = .ok (.putfield 116, 3) := by decide +kernel
theorem dX9_byteRow_32 : decode cX9_byteRow 32 = .ok (.iinc 2 (-1), 3) := by decide +kernel
theorem dX9_byteRow_35 : decode cX9_byteRow 35 = .ok (.goto (-33), 3) := by decide +kernel
theorem dX9_byteRow_38 : decode cX9_byteRow 38 = .ok (.return_, 1) := by decide +kernel
theorem dX9_back_0 : decode cX9_back 0 = .ok (.iload_n 1, 1) := by decide +kernel
theorem dX9_back_1 : decode cX9_back 1 = .ok (.ifCond .lt 11, 3) := by decide +kernel
theorem dX9_back_4 : decode cX9_back 4 = .ok (.iload_n 1, 1) := by decide +kernel
theorem dX9_back_5 : decode cX9_back 5 = .ok (.aload_n 0, 1) := by decide +kernel
theorem dX9_back_6 : decode cX9_back 6 = .ok (.getfield 116, 3) := by decide +kernel
theorem dX9_back_9 : decode cX9_back 9 = .ok (.if_icmp .le 5, 3) := by decide +kernel
theorem dX9_back_12 : decode cX9_back 12 = .ok (.iconst (-1), 1) := by decide +kernel
theorem dX9_back_13 : decode cX9_back 13 = .ok (.ireturn, 1) := by decide +kernel
theorem dX9_back_14 : decode cX9_back 14 = .ok (.aload_n 0, 1) := by decide +kernel
theorem dX9_back_15 : decode cX9_back 15 = .ok (.dup, 1) := by decide +kernel
theorem dX9_back_16 : decode cX9_back 16 = .ok (.getfield 116, 3) := by decide +kernel
theorem dX9_back_19 : decode cX9_back 19 = .ok (.iload_n 1, 1) := by decide +kernel
theorem dX9_back_20 : decode cX9_back 20 = .ok (.isub, 1) := by decide +kernel
theorem dX9_back_21 : decode cX9_back 21 = .ok (.putfield 116, 3) := by decide +kernel
theorem dX9_back_24 : decode cX9_back 24 = .ok (.aload_n 0, 1) := by decide +kernel
theorem dX9_back_25 : decode cX9_back 25 = .ok (.getfield 116, 3) := by decide +kernel
theorem dX9_back_28 : decode cX9_back 28 = .ok (.ireturn, 1) := by decide +kernel
theorem dX9_seen_0 : decode cX9_seen 0 = .ok (.iload_n 1, 1) := by decide +kernel
theorem dX9_seen_1 : decode cX9_seen 1 = .ok (.aload_n 0, 1) := by decide +kernel
theorem dX9_seen_2 : decode cX9_seen 2 = .ok (.getfield 116, 3) := by decide +kernel
theorem dX9_seen_5 : decode cX9_seen 5 = .ok (.if_icmp .ge 12, 3) := by decide +kernel
theorem dX9_seen_17 : decode cX9_seen 17 = .ok (.iconst 0, 1) := by decide +kernel
theorem dX9_seen_18 : decode cX9_seen 18 = .ok (.ireturn, 1) := by decide +kernel
theorem dX9_token_0 : decode cX9_token 0 = .ok (.aload_n 0, 1) := by decide +kernel
theorem dX9_token_1 : decode cX9_token 1 = .ok (.getfield 127, 3) := by decide +kernel
theorem dX9_token_4 : decode cX9_token 4 = .ok (.istore_n 1, 1) := by decide +kernel
theorem dX9_token_5 : decode cX9_token 5 = .ok (.iload_n 1, 1) := by decide +kernel
theorem dX9_token_6 : decode cX9_token 6 = .ok (.aload_n 0, 1) := by decide +kernel
theorem dX9_token_7 : decode cX9_token 7 = .ok (.getfield 116, 3) := by decide +kernel
theorem dX9_token_10 : decode cX9_token 10 = .ok (.if_icmp .ge 53, 3) := by decide +kernel
theorem dX9_token_63 : decode cX9_token 63 = .ok (.aload_n 0, 1) := by decide +kernel
theorem dX9_token_64 : decode cX9_token 64 = .ok (.iload_n 1, 1) := by decide +kernel
theorem dX9_token_65 : decode cX9_token 65 = .ok (.putfield 130, 3) := by decide +kernel
theorem dX9_token_68 : decode cX9_token 68 = .ok (.iload_n 1, 1) := by decide +kernel
theorem dX9_token_69 : decode cX9_token 69 = .ok (.iconst 1, 1) := by decide +kernel
theorem dX9_token_70 : decode cX9_token 70 = .ok (.iadd, 1) := by decide +kernel
theorem dX9_token_71 : decode cX9_token 71 = .ok (.istore_n 2, 1) := by decide +kernel
theorem dX9_token_72 : decode cX9_token 72 = .ok (.aload_n 0, 1) := by decide +kernel
theorem dX9_token_73 : decode cX9_token 73 = .ok (.iload_n 1, 1) := by decide +kernel
theorem dX9_token_74 : decode cX9_token 74 = .ok (.invokevirtual 123, 3) := by decide +kernel
theorem dX9_token_77 : decode cX9_token 77 = .ok (.istore_n 3, 1) := by decide +kernel
theorem dX9_token_78 : decode cX9_token 78 = .ok (.aload_n 0, 1) := by decide +kernel
theorem dX9_token_79 : decode cX9_token 79 = .ok (.lconst 0, 1) := by decide +kernel
theorem dX9_token_80 : decode cX9_token 80 = .ok (.putfield 133, 3) := by decide +kernel
theorem dX9_token_83 : decode cX9_token 83 = .ok (.iload_n 1, 1) := by decide +kernel
theorem dX9_token_84 : decode cX9_token 84 = .ok (.aload_n 0, 1) := by decide +kernel
theorem dX9_token_85 : decode cX9_token 85 = .ok (.getfield 116, 3) := by decide +kernel
theorem dX9_token_88 : decode cX9_token 88 = .ok (.if_icmp .lt 13, 3) := by decide +kernel
theorem dX9_token_91 : decode cX9_token 91 = .ok (.aload_n 0, 1) := by decide +kernel
theorem dX9_token_92 : decode cX9_token 92 = .ok (.iconst 0, 1) := by decide +kernel
theorem dX9_token_93 : decode cX9_token 93 = .ok (.putfield 137, 3) := by decide +kernel
theorem dX9_token_96 : decode cX9_token 96 = .ok (.iload_n 1, 1) := by decide +kernel
theorem dX9_token_97 : decode cX9_token 97 = .ok (.istore_n 2, 1) := by decide +kernel
theorem dX9_token_98 : decode cX9_token 98 = .ok (.goto 168, 3) := by decide +kernel
theorem dX9_token_266 : decode cX9_token 266 = .ok (.aload_n 0, 1) := by decide +kernel
theorem dX9_token_267 : decode cX9_token 267 = .ok (.iload_n 2, 1) := by decide +kernel
theorem dX9_token_268 : decode cX9_token 268 = .ok (.putfield 127, 3) := by decide +kernel
theorem dX9_token_271 : decode cX9_token 271 = .ok (.return_, 1) := by decide +kernel
theorem dX9_stop_0 : decode cX9_stop 0 = .ok (.aload_n 0, 1) := by decide +kernel
theorem dX9_stop_1 : decode cX9_stop 1 = .ok (.iload_n 1, 1) := by decide +kernel
theorem dX9_stop_2 : decode cX9_stop 2 = .ok (.putfield 147, 3) := by decide +kernel
theorem dX9_stop_5 : decode cX9_stop 5 = .ok (.aload_n 0, 1) := by decide +kernel
theorem dX9_stop_6 : decode cX9_stop 6 = .ok (.iload_n 2, 1) := by decide +kernel
theorem dX9_stop_7 : decode cX9_stop 7 = .ok (.putfield 92, 3) := by decide +kernel
theorem dX9_stop_10 : decode cX9_stop 10 = .ok (.aload_n 0, 1) := by decide +kernel
theorem dX9_stop_11 : decode cX9_stop 11 = .ok (.iconst 1, 1) := by decide +kernel
theorem dX9_stop_12 : decode cX9_stop 12 = .ok (.putfield 150, 3) := by decide +kernel
theorem dX9_stop_15 : decode cX9_stop 15 = .ok (.iconst 0, 1) := by decide +kernel
theorem dX9_stop_16 : decode cX9_stop 16 = .ok (.ireturn, 1) := by decide +kernel
theorem dX9_isWord_0 : decode cX9_isWord 0 = .ok (.aload_n 0, 1) := by decide +kernel
theorem dX9_isWord_1 : decode cX9_isWord 1 = .ok (.getfield 137, 3) := by decide +kernel
theorem dX9_isWord_4 : decode cX9_isWord 4 = .ok (.iconst 1, 1) := by decide +kernel
theorem dX9_isWord_5 : decode cX9_isWord 5 = .ok (.if_icmp .ne 16, 3) := by decide +kernel
theorem dX9_isWord_21 : decode cX9_isWord 21 = .ok (.iconst 0, 1) := by decide +kernel
theorem dX9_isWord_22 : decode cX9_isWord 22 = .ok (.ireturn, 1) := by decide +kernel
theorem dX9_read_0 : decode cX9_read 0 = .ok (.aload_n 0, 1) := by decide +kernel
theorem dX9_read_1 : decode cX9_read 1 = .ok (.iconst 0, 1) := by decide +kernel
theorem dX9_read_2 : decode cX9_read 2 = .ok (.putfield 147, 3) := by decide +kernel
theorem dX9_read_5 : decode cX9_read 5 = .ok (.aload_n 0, 1) := by decide +kernel
theorem dX9_read_6 : decode cX9_read 6 = .ok (.iconst (-1), 1) := by decide +kernel
theorem dX9_read_7 : decode cX9_read 7 = .ok (.putfield 92, 3) := by decide +kernel
theorem dX9_read_10 : decode cX9_read 10 = .ok (.aload_n 0, 1) := by decide +kernel
theorem dX9_read_11 : decode cX9_read 11 = .ok (.iconst 0, 1) := by decide +kernel
theorem dX9_read_12 : decode cX9_read 12 = .ok (.putfield 150, 3) := by decide +kernel
theorem dX9_read_15 : decode cX9_read 15 = .ok (.aload_n 0, 1) := by decide +kernel
theorem dX9_read_16 : decode cX9_read 16 = .ok (.iconst 0, 1) := by decide +kernel
theorem dX9_read_17 : decode cX9_read 17 = .ok (.putfield 127, 3) := by decide +kernel
theorem dX9_read_20 : decode cX9_read 20 = .ok (.aload_n 0, 1) := by decide +kernel
theorem dX9_read_21 : decode cX9_read 21 = .ok (.iconst 1, 1) := by decide +kernel
theorem dX9_read_22 : decode cX9_read 22 = .ok (.putfield 154, 3) := by decide +kernel
theorem dX9_read_25 : decode cX9_read 25 = .ok (.aload_n 0, 1) := by decide +kernel
theorem dX9_read_26 : decode cX9_read 26 = .ok (.invokevirtual 161, 3) := by decide +kernel
theorem dX9_read_29 : decode cX9_read 29 = .ok (.aload_n 0, 1) := by decide +kernel
theorem dX9_read_30 : decode cX9_read 30 = .ok (.getfield 7, 3) := by decide +kernel
theorem dX9_read_33 : decode cX9_read 33 = .ok (.iconst 1, 1) := by decide +kernel
theorem dX9_read_34 : decode cX9_read 34 = .ok (.iconst 0, 1) := by decide +kernel
theorem dX9_read_35 : decode cX9_read 35 = .ok (.iastore, 1) := by decide +kernel
theorem dX9_read_36 : decode cX9_read 36 = .ok (.iconst 0, 1) := by decide +kernel
theorem dX9_read_37 : decode cX9_read 37 = .ok (.istore_n 1, 1) := by decide +kernel
theorem dX9_read_38 : decode cX9_read 38 = .ok (.iload_n 1, 1) := by decide +kernel
theorem dX9_read_39 : decode cX9_read 39 = .ok (.iconst 4, 1) := by decide +kernel
theorem dX9_read_40 : decode cX9_read 40 = .ok (.if_icmp .ge 18, 3) := by decide +kernel
theorem dX9_read_43 : decode cX9_read 43 = .ok (.aload_n 0, 1) := by decide +kernel
theorem dX9_read_44 : decode cX9_read 44 = .ok (.getfield 40, 3) := by decide +kernel
theorem dX9_read_47 : decode cX9_read 47 = .ok (.iconst 4, 1) := by decide +kernel
theorem dX9_read_48 : decode cX9_read 48 = .ok (.iload_n 1, 1) := by decide +kernel
theorem dX9_read_49 : decode cX9_read 49 = .ok (.iadd, 1) := by decide +kernel
theorem dX9_read_50 : decode cX9_read 50 = .ok (.iconst 0, 1) := by decide +kernel
theorem dX9_read_51 : decode cX9_read 51 = .ok (.iastore, 1) := by decide +kernel
theorem dX9_read_52 : decode cX9_read 52 = .ok (.iinc 1 1, 3) := by decide +kernel
theorem dX9_read_55 : decode cX9_read 55 = .ok (.goto (-17), 3) := by decide +kernel
theorem dX9_read_58 : decode cX9_read 58 = .ok (.aload_n 0, 1) := by decide +kernel
theorem dX9_read_59 : decode cX9_read 59 = .ok (.invokevirtual 217, 3) := by decide +kernel
theorem dX9_read_62 : decode cX9_read 62 = .ok (.ifCond .eq 14, 3) := by decide +kernel
theorem dX9_read_76 : decode cX9_read 76 = .ok (.iconst 0, 1) := by decide +kernel
theorem dX9_read_77 : decode cX9_read 77 = .ok (.istore_n 1, 1) := by decide +kernel
theorem dX9_read_78 : decode cX9_read 78 = .ok (.aload_n 0, 1) := by decide +kernel
theorem dX9_read_79 : decode cX9_read 79 = .ok (.iconst 0, 1) := by decide +kernel
theorem dX9_read_80 : decode cX9_read 80 = .ok (.putfield 116, 3) := by decide +kernel
theorem dX9_read_83 : decode cX9_read 83 = .ok (.iload_n 1, 1) := by decide +kernel
theorem dX9_read_84 : decode cX9_read 84 = .ok (.ifCond .ne 8, 3) := by decide +kernel
theorem dX9_read_87 : decode cX9_read 87 = .ok (.aload_n 0, 1) := by decide +kernel
theorem dX9_read_88 : decode cX9_read 88 = .ok (.getfield 147, 3) := by decide +kernel
theorem dX9_read_91 : decode cX9_read 91 = .ok (.ireturn, 1) := by decide +kernel
theorem dX9_text_0 : decode cX9_text 0 = .ok (.iconst 0, 1) := by decide +kernel
theorem dX9_text_1 : decode cX9_text 1 = .ok (.istore_n 1, 1) := by decide +kernel
theorem dX9_text_2 : decode cX9_text 2 = .ok (.aload_n 0, 1) := by decide +kernel
theorem dX9_text_3 : decode cX9_text 3 = .ok (.ldc2_w 230, 3) := by decide +kernel
theorem dX9_text_6 : decode cX9_text 6 = .ok (.invokevirtual 168, 3) := by decide +kernel
theorem dX9_text_9 : decode cX9_text 9 = .ok (.ifCond .eq 105, 3) := by decide +kernel
theorem dX9_text_114 : decode cX9_text 114 = .ok (.iconst 1, 1) := by decide +kernel
theorem dX9_text_115 : decode cX9_text 115 = .ok (.istore_n 2, 1) := by decide +kernel
theorem dX9_text_116 : decode cX9_text 116 = .ok (.iload_n 2, 1) := by decide +kernel
theorem dX9_text_117 : decode cX9_text 117 = .ok (.ifCond .eq 78, 3) := by decide +kernel
theorem dX9_text_120 : decode cX9_text 120 = .ok (.aload_n 0, 1) := by decide +kernel
theorem dX9_text_121 : decode cX9_text 121 = .ok (.ldc2_w 238, 3) := by decide +kernel
theorem dX9_text_124 : decode cX9_text 124 = .ok (.invokevirtual 168, 3) := by decide +kernel
theorem dX9_text_127 : decode cX9_text 127 = .ok (.ifCond .ne 13, 3) := by decide +kernel
theorem dX9_text_130 : decode cX9_text 130 = .ok (.aload_n 0, 1) := by decide +kernel
theorem dX9_text_131 : decode cX9_text 131 = .ok (.iconst 1, 1) := by decide +kernel
theorem dX9_text_132 : decode cX9_text 132 = .ok (.aload_n 0, 1) := by decide +kernel
theorem dX9_text_133 : decode cX9_text 133 = .ok (.getfield 130, 3) := by decide +kernel
theorem dX9_text_136 : decode cX9_text 136 = .ok (.invokevirtual 157, 3) := by decide +kernel
theorem dX9_text_139 : decode cX9_text 139 = .ok (.ireturn, 1) := by decide +kernel
theorem dX9_place_0 : decode cX9_place 0 = .ok (.aload_n 0, 1) := by decide +kernel
theorem dX9_place_1 : decode cX9_place 1 = .ok (.getfield 92, 3) := by decide +kernel
theorem dX9_place_4 : decode cX9_place 4 = .ok (.ireturn, 1) := by decide +kernel
theorem dX9_ins_0 : decode cX9_ins 0 = .ok (.aload_n 0, 1) := by decide +kernel
theorem dX9_ins_1 : decode cX9_ins 1 = .ok (.getfield 224, 3) := by decide +kernel
theorem dX9_ins_4 : decode cX9_ins 4 = .ok (.ifCond .eq 31, 3) := by decide +kernel
theorem dX9_ins_35 : decode cX9_ins 35 = .ok (.iconst (-1), 1) := by decide +kernel
theorem dX9_ins_36 : decode cX9_ins 36 = .ok (.ireturn, 1) := by decide +kernel
theorem dX9_begin_0 : decode cX9_begin 0 = .ok (.aload_n 0, 1) := by decide +kernel
theorem dX9_begin_1 : decode cX9_begin 1 = .ok (.getfield 224, 3) := by decide +kernel
theorem dX9_begin_4 : decode cX9_begin 4 = .ok (.ifCond .eq 12, 3) := by decide +kernel
theorem dX9_begin_16 : decode cX9_begin 16 = .ok (.iconst 0, 1) := by decide +kernel
theorem dX9_begin_17 : decode cX9_begin 17 = .ok (.ireturn, 1) := by decide +kernel
theorem dX9_step_0 : decode cX9_step 0 = .ok (.aload_n 0, 1) := by decide +kernel
theorem dX9_step_1 : decode cX9_step 1 = .ok (.getfield 84, 3) := by decide +kernel
theorem dX9_step_4 : decode cX9_step 4 = .ok (.ifCond .ge 5, 3) := by decide +kernel
theorem dX9_step_7 : decode cX9_step 7 = .ok (.iconst 0, 1) := by decide +kernel
theorem dX9_step_8 : decode cX9_step 8 = .ok (.ireturn, 1) := by decide +kernel
theorem dX9_undo_0 : decode cX9_undo 0 = .ok (.aload_n 0, 1) := by decide +kernel
theorem dX9_undo_1 : decode cX9_undo 1 = .ok (.getfield 84, 3) := by decide +kernel
theorem dX9_undo_4 : decode cX9_undo 4 = .ok (.ifCond .lt 10, 3) := by decide +kernel
theorem dX9_undo_14 : decode cX9_undo 14 = .ok (.iconst 0, 1) := by decide +kernel
theorem dX9_undo_15 : decode cX9_undo 15 = .ok (.ireturn, 1) := by decide +kernel
theorem dX9_isCore_0 : decode cX9_isCore 0 = .ok (.aload_n 0, 1) := by decide +kernel
theorem dX9_isCore_1 : decode cX9_isCore 1 = .ok (.getfield 84, 3) := by decide +kernel
theorem dX9_isCore_4 : decode cX9_isCore 4 = .ok (.ifCond .lt 21, 3) := by decide +kernel
theorem dX9_isCore_25 : decode cX9_isCore 25 = .ok (.iconst 0, 1) := by decide +kernel
theorem dX9_isCore_26 : decode cX9_isCore 26 = .ok (.ireturn, 1) := by decide +kernel
theorem dX9_register__0 : decode cX9_register_ 0 = .ok (.aload_n 0, 1) := by decide +kernel
theorem dX9_register__1 : decode cX9_register_ 1 = .ok (.iload_n 1, 1) := by decide +kernel
theorem dX9_register__2 : decode cX9_register_ 2 = .ok (.invokevirtual 344, 3) := by decide +kernel
theorem dX9_register__5 : decode cX9_register_ 5 = .ok (.ifCond .eq 27, 3) := by decide +kernel
theorem dX9_register__32 : decode cX9_register_ 32 = .ok (.iconst 0, 1) := by decide +kernel
theorem dX9_register__33 : decode cX9_register_ 33 = .ok (.ireturn, 1) := by decide +kernel
theorem dX9_memory_0 : decode cX9_memory 0 = .ok (.aload_n 0, 1) := by decide +kernel
theorem dX9_memory_1 : decode cX9_memory 1 = .ok (.getfield 84, 3) := by decide +kernel
theorem dX9_memory_4 : decode cX9_memory 4 = .ok (.ifCond .lt 24, 3) := by decide +kernel
theorem dX9_memory_28 : decode cX9_memory 28 = .ok (.iconst 0, 1) := by decide +kernel
theorem dX9_memory_29 : decode cX9_memory 29 = .ok (.ireturn, 1) := by decide +kernel
theorem dX9_next_0 : decode cX9_next 0 = .ok (.aload_n 0, 1) := by decide +kernel
theorem dX9_next_1 : decode cX9_next 1 = .ok (.iload_n 1, 1) := by decide +kernel
theorem dX9_next_2 : decode cX9_next 2 = .ok (.invokevirtual 344, 3) := by decide +kernel
theorem dX9_next_5 : decode cX9_next 5 = .ok (.ifCond .eq 12, 3) := by decide +kernel
theorem dX9_next_17 : decode cX9_next 17 = .ok (.iconst (-1), 1) := by decide +kernel
theorem dX9_next_18 : decode cX9_next 18 = .ok (.ireturn, 1) := by decide +kernel
theorem dX9_store_0 : decode cX9_store 0 = .ok (.aload_n 0, 1) := by decide +kernel
theorem dX9_store_1 : decode cX9_store 1 = .ok (.iload_n 1, 1) := by decide +kernel
theorem dX9_store_2 : decode cX9_store 2 = .ok (.invokevirtual 344, 3) := by decide +kernel
theorem dX9_store_5 : decode cX9_store 5 = .ok (.ifCond .eq 29, 3) := by decide +kernel
theorem dX9_store_34 : decode cX9_store 34 = .ok (.iconst (-1), 1) := by decide +kernel
theorem dX9_store_35 : decode cX9_store 35 = .ok (.ireturn, 1) := by decide +kernel
theorem dX9_outcomes_0 : decode cX9_outcomes 0 = .ok (.aload_n 0, 1) := by decide +kernel
theorem dX9_outcomes_1 : decode cX9_outcomes 1 = .ok (.getfield 224, 3) := by decide +kernel
theorem dX9_outcomes_4 : decode cX9_outcomes 4 = .ok (.ifCond .eq 12, 3) := by decide +kernel
theorem dX9_outcomes_16 : decode cX9_outcomes 16 = .ok (.iconst (-1), 1) := by decide +kernel
theorem dX9_outcomes_17 : decode cX9_outcomes 17 = .ok (.ireturn, 1) := by decide +kernel
theorem dX9_isOutcome_0 : decode cX9_isOutcome 0 = .ok (.aload_n 0, 1) := by decide +kernel
theorem dX9_isOutcome_1 : decode cX9_isOutcome 1 = .ok (.getfield 224, 3) := by decide +kernel
theorem dX9_isOutcome_4 : decode cX9_isOutcome 4 = .ok (.ifCond .eq 38, 3) := by decide +kernel
theorem dX9_isOutcome_42 : decode cX9_isOutcome 42 = .ok (.iconst 0, 1) := by decide +kernel
theorem dX9_isOutcome_43 : decode cX9_isOutcome 43 = .ok (.ireturn, 1) := by decide +kernel
theorem dX9_outcome_0 : decode cX9_outcome 0 = .ok (.aload_n 0, 1) := by decide +kernel
theorem dX9_outcome_1 : decode cX9_outcome 1 = .ok (.iload_n 1, 1) := by decide +kernel
theorem dX9_outcome_2 : decode cX9_outcome 2 = .ok (.iload_n 2, 1) := by decide +kernel
theorem dX9_outcome_3 : decode cX9_outcome 3 = .ok (.invokevirtual 350, 3) := by decide +kernel
theorem dX9_outcome_6 : decode cX9_outcome 6 = .ok (.ifCond .eq 34, 3) := by decide +kernel
theorem dX9_outcome_40 : decode cX9_outcome 40 = .ok (.iconst 0, 1) := by decide +kernel
theorem dX9_outcome_41 : decode cX9_outcome 41 = .ok (.ireturn, 1) := by decide +kernel
theorem dX9_schedule_0 : decode cX9_schedule 0 = .ok (.aload_n 0, 1) := by decide +kernel
theorem dX9_schedule_1 : decode cX9_schedule 1 = .ok (.iload_n 1, 1) := by decide +kernel
theorem dX9_schedule_2 : decode cX9_schedule 2 = .ok (.iload_n 2, 1) := by decide +kernel
theorem dX9_schedule_3 : decode cX9_schedule 3 = .ok (.invokevirtual 350, 3) := by decide +kernel
theorem dX9_schedule_6 : decode cX9_schedule 6 = .ok (.ifCond .eq 24, 3) := by decide +kernel
theorem dX9_schedule_30 : decode cX9_schedule 30 = .ok (.iconst (-1), 1) := by decide +kernel
theorem dX9_schedule_31 : decode cX9_schedule 31 = .ok (.ireturn, 1) := by decide +kernel
theorem dX9_more_0 : decode cX9_more 0 = .ok (.aload_n 0, 1) := by decide +kernel
theorem dX9_more_1 : decode cX9_more 1 = .ok (.getfield 224, 3) := by decide +kernel
theorem dX9_more_4 : decode cX9_more 4 = .ok (.ifCond .ne 5, 3) := by decide +kernel
theorem dX9_more_7 : decode cX9_more 7 = .ok (.iconst (-1), 1) := by decide +kernel
theorem dX9_more_8 : decode cX9_more 8 = .ok (.ireturn, 1) := by decide +kernel
theorem dX9_race_0 : decode cX9_race 0 = .ok (.aload_n 0, 1) := by decide +kernel
theorem dX9_race_1 : decode cX9_race 1 = .ok (.getfield 224, 3) := by decide +kernel
theorem dX9_race_4 : decode cX9_race 4 = .ok (.ifCond .ne 5, 3) := by decide +kernel
theorem dX9_race_7 : decode cX9_race 7 = .ok (.iconst (-1), 1) := by decide +kernel
theorem dX9_race_8 : decode cX9_race 8 = .ok (.ireturn, 1) := by decide +kernel
theorem dX9_racer_0 : decode cX9_racer 0 = .ok (.aload_n 0, 1) := by decide +kernel
theorem dX9_racer_1 : decode cX9_racer 1 = .ok (.getfield 224, 3) := by decide +kernel
theorem dX9_racer_4 : decode cX9_racer 4 = .ok (.ifCond .eq 15, 3) := by decide +kernel
theorem dX9_racer_19 : decode cX9_racer 19 = .ok (.iconst (-1), 1) := by decide +kernel
theorem dX9_racer_20 : decode cX9_racer 20 = .ok (.ireturn, 1) := by decide +kernel
theorem dX9_cure_0 : decode cX9_cure 0 = .ok (.aload_n 0, 1) := by decide +kernel
theorem dX9_cure_1 : decode cX9_cure 1 = .ok (.getfield 224, 3) := by decide +kernel
theorem dX9_cure_4 : decode cX9_cure 4 = .ok (.ifCond .eq 12, 3) := by decide +kernel
theorem dX9_cure_16 : decode cX9_cure 16 = .ok (.iconst (-1), 1) := by decide +kernel
theorem dX9_cure_17 : decode cX9_cure 17 = .ok (.ireturn, 1) := by decide +kernel
theorem dX9_cured_0 : decode cX9_cured 0 = .ok (.aload_n 0, 1) := by decide +kernel
theorem dX9_cured_1 : decode cX9_cured 1 = .ok (.getfield 224, 3) := by decide +kernel
theorem dX9_cured_4 : decode cX9_cured 4 = .ok (.ifCond .eq 24, 3) := by decide +kernel
theorem dX9_cured_28 : decode cX9_cured 28 = .ok (.iconst (-1), 1) := by decide +kernel
theorem dX9_cured_29 : decode cX9_cured 29 = .ok (.ireturn, 1) := by decide +kernel
theorem dX9_count_0 : decode cX9_count 0 = .ok (.iload_n 1, 1) := by decide +kernel
theorem dX9_count_1 : decode cX9_count 1 = .ok (.bipush 9, 2) := by decide +kernel
theorem dX9_count_3 : decode cX9_count 3 = .ok (.if_icmp .ne 8, 3) := by decide +kernel
theorem dX9_count_6 : decode cX9_count 6 = .ok (.aload_n 0, 1) := by decide +kernel
theorem dX9_count_7 : decode cX9_count 7 = .ok (.getfield 116, 3) := by decide +kernel
theorem dX9_count_10 : decode cX9_count 10 = .ok (.ireturn, 1) := by decide +kernel
theorem dX9_count_11 : decode cX9_count 11 = .ok (.iload_n 1, 1) := by decide +kernel
theorem dX9_count_12 : decode cX9_count 12 = .ok (.ifCond .lt 9, 3) := by decide +kernel
theorem dX9_count_15 : decode cX9_count 15 = .ok (.iload_n 1, 1) := by decide +kernel
theorem dX9_count_16 : decode cX9_count 16 = .ok (.bipush 9, 2) := by decide +kernel
theorem dX9_count_18 : decode cX9_count 18 = .ok (.if_icmp .le 5, 3) := by decide +kernel
theorem dX9_count_21 : decode cX9_count 21 = .ok (.iconst (-1), 1) := by decide +kernel
theorem dX9_count_22 : decode cX9_count 22 = .ok (.ireturn, 1) := by decide +kernel
theorem dX9_count_23 : decode cX9_count 23 = .ok (.aload_n 0, 1) := by decide +kernel
theorem dX9_count_24 : decode cX9_count 24 = .ok (.getfield 224, 3) := by decide +kernel
theorem dX9_count_27 : decode cX9_count 27 = .ok (.ifCond .ne 5, 3) := by decide +kernel
theorem dX9_count_30 : decode cX9_count 30 = .ok (.iconst 0, 1) := by decide +kernel
theorem dX9_count_31 : decode cX9_count 31 = .ok (.ireturn, 1) := by decide +kernel
