theorem dX9_does_0 : decode cX9_does 0 = .ok (.iload_n 3, 1) := by decide +kernel
theorem dX9_does_1 : decode cX9_does 1 = .ok (.iconst 3, 1) := by decide +kernel
theorem dX9_does_10 : decode cX9_does 10 = .ok (.aload_n 0, 1) := by decide +kernel
theorem dX9_does_101 : decode cX9_does 101 = .ok (.aload_n 0, 1) := by decide +kernel
theorem dX9_does_102 : decode cX9_does 102 = .ok (.getfield 31, 3) := by decide +kernel
theorem dX9_does_105 : decode cX9_does 105 = .ok (.iload 6, 2) := by decide +kernel
theorem dX9_does_107 : decode cX9_does 107 = .ok (.iaload, 1) := by decide +kernel
theorem dX9_does_108 : decode cX9_does 108 = .ok (.aload_n 0, 1) := by decide +kernel
theorem dX9_does_109 : decode cX9_does 109 = .ok (.getfield 34, 3) := by decide +kernel
theorem dX9_does_11 : decode cX9_does 11 = .ok (.iload 5, 2) := by decide +kernel
theorem dX9_does_112 : decode cX9_does 112 = .ok (.iload 6, 2) := by decide +kernel
theorem dX9_does_114 : decode cX9_does 114 = .ok (.iaload, 1) := by decide +kernel
theorem dX9_does_115 : decode cX9_does 115 = .ok (.invokevirtual 273, 3) := by decide +kernel
theorem dX9_does_118 : decode cX9_does 118 = .ok (.istore 10, 2) := by decide +kernel
theorem dX9_does_120 : decode cX9_does 120 = .ok (.aload_n 0, 1) := by decide +kernel
theorem dX9_does_121 : decode cX9_does 121 = .ok (.getfield 75, 3) := by decide +kernel
theorem dX9_does_124 : decode cX9_does 124 = .ok (.iload 5, 2) := by decide +kernel
theorem dX9_does_126 : decode cX9_does 126 = .ok (.dup2, 1) := by decide +kernel
theorem dX9_does_127 : decode cX9_does 127 = .ok (.iaload, 1) := by decide +kernel
theorem dX9_does_128 : decode cX9_does 128 = .ok (.iconst 1, 1) := by decide +kernel
theorem dX9_does_129 : decode cX9_does 129 = .ok (.iadd, 1) := by decide +kernel
theorem dX9_does_13 : decode cX9_does 13 = .ok (.invokevirtual 270, 3) := by decide +kernel
theorem dX9_does_130 : decode cX9_does 130 = .ok (.iastore, 1) := by decide +kernel
theorem dX9_does_131 : decode cX9_does 131 = .ok (.aload_n 0, 1) := by decide +kernel
theorem dX9_does_132 : decode cX9_does 132 = .ok (.getfield 16, 3) := by decide +kernel
theorem dX9_does_135 : decode cX9_does 135 = .ok (.iload 6, 2) := by decide +kernel
theorem dX9_does_137 : decode cX9_does 137 = .ok (.iaload, 1) := by decide +kernel
theorem dX9_does_138 : decode cX9_does 138 = .ok (.tableswitch 189 0 8 #[50, 68, 112, 124, 189, 189, 189, 189, 144], 50) := by decide +kernel
theorem dX9_does_16 : decode cX9_does 16 = .ok (.return_, 1) := by decide +kernel
theorem dX9_does_17 : decode cX9_does 17 = .ok (.bipush 36, 2) := by decide +kernel
theorem dX9_does_188 : decode cX9_does 188 = .ok (.aload_n 0, 1) := by decide +kernel
theorem dX9_does_189 : decode cX9_does 189 = .ok (.getfield 75, 3) := by decide +kernel
theorem dX9_does_19 : decode cX9_does 19 = .ok (.iload_n 1, 1) := by decide +kernel
theorem dX9_does_192 : decode cX9_does 192 = .ok (.iload 7, 2) := by decide +kernel
theorem dX9_does_194 : decode cX9_does 194 = .ok (.aload_n 0, 1) := by decide +kernel
theorem dX9_does_195 : decode cX9_does 195 = .ok (.iload 5, 2) := by decide +kernel
theorem dX9_does_197 : decode cX9_does 197 = .ok (.iload 8, 2) := by decide +kernel
theorem dX9_does_199 : decode cX9_does 199 = .ok (.invokevirtual 277, 3) := by decide +kernel
theorem dX9_does_2 : decode cX9_does 2 = .ok (.irem, 1) := by decide +kernel
theorem dX9_does_20 : decode cX9_does 20 = .ok (.imul, 1) := by decide +kernel
theorem dX9_does_202 : decode cX9_does 202 = .ok (.iastore, 1) := by decide +kernel
theorem dX9_does_203 : decode cX9_does 203 = .ok (.goto 154, 3) := by decide +kernel
theorem dX9_does_206 : decode cX9_does 206 = .ok (.aload_n 0, 1) := by decide +kernel
theorem dX9_does_207 : decode cX9_does 207 = .ok (.iload 5, 2) := by decide +kernel
theorem dX9_does_209 : decode cX9_does 209 = .ok (.iload 8, 2) := by decide +kernel
theorem dX9_does_21 : decode cX9_does 21 = .ok (.bipush 12, 2) := by decide +kernel
theorem dX9_does_211 : decode cX9_does 211 = .ok (.iload 9, 2) := by decide +kernel
theorem dX9_does_213 : decode cX9_does 213 = .ok (.iload_n 2, 1) := by decide +kernel
theorem dX9_does_214 : decode cX9_does 214 = .ok (.invokevirtual 281, 3) := by decide +kernel
theorem dX9_does_217 : decode cX9_does 217 = .ok (.iload 4, 2) := by decide +kernel
theorem dX9_does_219 : decode cX9_does 219 = .ok (.ifCond .eq 138, 3) := by decide +kernel
theorem dX9_does_222 : decode cX9_does 222 = .ok (.aload_n 0, 1) := by decide +kernel
theorem dX9_does_223 : decode cX9_does 223 = .ok (.getfield 75, 3) := by decide +kernel
theorem dX9_does_226 : decode cX9_does 226 = .ok (.bipush 55, 2) := by decide +kernel
theorem dX9_does_228 : decode cX9_does 228 = .ok (.iload 5, 2) := by decide +kernel
theorem dX9_does_23 : decode cX9_does 23 = .ok (.iload 5, 2) := by decide +kernel
theorem dX9_does_230 : decode cX9_does 230 = .ok (.iadd, 1) := by decide +kernel
theorem dX9_does_231 : decode cX9_does 231 = .ok (.aload_n 0, 1) := by decide +kernel
theorem dX9_does_232 : decode cX9_does 232 = .ok (.getfield 75, 3) := by decide +kernel
theorem dX9_does_235 : decode cX9_does 235 = .ok (.bipush 55, 2) := by decide +kernel
theorem dX9_does_237 : decode cX9_does 237 = .ok (.iload 5, 2) := by decide +kernel
theorem dX9_does_239 : decode cX9_does 239 = .ok (.iadd, 1) := by decide +kernel
theorem dX9_does_240 : decode cX9_does 240 = .ok (.iaload, 1) := by decide +kernel
theorem dX9_does_241 : decode cX9_does 241 = .ok (.iconst 1, 1) := by decide +kernel
theorem dX9_does_242 : decode cX9_does 242 = .ok (.iload 8, 2) := by decide +kernel
theorem dX9_does_244 : decode cX9_does 244 = .ok (.ishl, 1) := by decide +kernel
theorem dX9_does_245 : decode cX9_does 245 = .ok (.ior, 1) := by decide +kernel
theorem dX9_does_246 : decode cX9_does 246 = .ok (.iastore, 1) := by decide +kernel
theorem dX9_does_247 : decode cX9_does 247 = .ok (.goto 110, 3) := by decide +kernel
theorem dX9_does_25 : decode cX9_does 25 = .ok (.imul, 1) := by decide +kernel
theorem dX9_does_250 : decode cX9_does 250 = .ok (.aload_n 0, 1) := by decide +kernel
theorem dX9_does_251 : decode cX9_does 251 = .ok (.getfield 75, 3) := by decide +kernel
theorem dX9_does_254 : decode cX9_does 254 = .ok (.iload 7, 2) := by decide +kernel
theorem dX9_does_256 : decode cX9_does 256 = .ok (.iload 9, 2) := by decide +kernel
theorem dX9_does_258 : decode cX9_does 258 = .ok (.iastore, 1) := by decide +kernel
theorem dX9_does_259 : decode cX9_does 259 = .ok (.goto 98, 3) := by decide +kernel
theorem dX9_does_26 : decode cX9_does 26 = .ok (.iadd, 1) := by decide +kernel
theorem dX9_does_262 : decode cX9_does 262 = .ok (.aload_n 0, 1) := by decide +kernel
theorem dX9_does_263 : decode cX9_does 263 = .ok (.getfield 75, 3) := by decide +kernel
theorem dX9_does_266 : decode cX9_does 266 = .ok (.iload 7, 2) := by decide +kernel
theorem dX9_does_268 : decode cX9_does 268 = .ok (.aload_n 0, 1) := by decide +kernel
theorem dX9_does_269 : decode cX9_does 269 = .ok (.getfield 75, 3) := by decide +kernel
theorem dX9_does_27 : decode cX9_does 27 = .ok (.aload_n 0, 1) := by decide +kernel
theorem dX9_does_272 : decode cX9_does 272 = .ok (.iload 7, 2) := by decide +kernel
theorem dX9_does_274 : decode cX9_does 274 = .ok (.iaload, 1) := by decide +kernel
theorem dX9_does_275 : decode cX9_does 275 = .ok (.iload 9, 2) := by decide +kernel
theorem dX9_does_277 : decode cX9_does 277 = .ok (.iadd, 1) := by decide +kernel
theorem dX9_does_278 : decode cX9_does 278 = .ok (.iastore, 1) := by decide +kernel
theorem dX9_does_279 : decode cX9_does 279 = .ok (.goto 78, 3) := by decide +kernel
theorem dX9_does_28 : decode cX9_does 28 = .ok (.getfield 75, 3) := by decide +kernel
theorem dX9_does_282 : decode cX9_does 282 = .ok (.aload_n 0, 1) := by decide +kernel
theorem dX9_does_283 : decode cX9_does 283 = .ok (.getfield 75, 3) := by decide +kernel
theorem dX9_does_286 : decode cX9_does 286 = .ok (.iload 5, 2) := by decide +kernel
theorem dX9_does_288 : decode cX9_does 288 = .ok (.aload_n 0, 1) := by decide +kernel
theorem dX9_does_289 : decode cX9_does 289 = .ok (.getfield 75, 3) := by decide +kernel
theorem dX9_does_292 : decode cX9_does 292 = .ok (.iload 7, 2) := by decide +kernel
theorem dX9_does_294 : decode cX9_does 294 = .ok (.iaload, 1) := by decide +kernel
theorem dX9_does_295 : decode cX9_does 295 = .ok (.ifCond .eq 21, 3) := by decide +kernel
theorem dX9_does_298 : decode cX9_does 298 = .ok (.aload_n 0, 1) := by decide +kernel
theorem dX9_does_299 : decode cX9_does 299 = .ok (.getfield 75, 3) := by decide +kernel
theorem dX9_does_3 : decode cX9_does 3 = .ok (.istore 5, 2) := by decide +kernel
theorem dX9_does_302 : decode cX9_does 302 = .ok (.iload 5, 2) := by decide +kernel
theorem dX9_does_304 : decode cX9_does 304 = .ok (.iaload, 1) := by decide +kernel
theorem dX9_does_305 : decode cX9_does 305 = .ok (.aload_n 0, 1) := by decide +kernel
theorem dX9_does_306 : decode cX9_does 306 = .ok (.getfield 37, 3) := by decide +kernel
theorem dX9_does_309 : decode cX9_does 309 = .ok (.iload 6, 2) := by decide +kernel
theorem dX9_does_31 : decode cX9_does 31 = .ok (.iload 5, 2) := by decide +kernel
theorem dX9_does_311 : decode cX9_does 311 = .ok (.iaload, 1) := by decide +kernel
theorem dX9_does_312 : decode cX9_does 312 = .ok (.iadd, 1) := by decide +kernel
theorem dX9_does_313 : decode cX9_does 313 = .ok (.goto 10, 3) := by decide +kernel
theorem dX9_does_316 : decode cX9_does 316 = .ok (.aload_n 0, 1) := by decide +kernel
theorem dX9_does_317 : decode cX9_does 317 = .ok (.getfield 75, 3) := by decide +kernel
theorem dX9_does_320 : decode cX9_does 320 = .ok (.iload 5, 2) := by decide +kernel
theorem dX9_does_322 : decode cX9_does 322 = .ok (.iaload, 1) := by decide +kernel
theorem dX9_does_323 : decode cX9_does 323 = .ok (.iastore, 1) := by decide +kernel
theorem dX9_does_324 : decode cX9_does 324 = .ok (.goto 33, 3) := by decide +kernel
theorem dX9_does_327 : decode cX9_does 327 = .ok (.aload_n 0, 1) := by decide +kernel
theorem dX9_does_328 : decode cX9_does 328 = .ok (.aload_n 0, 1) := by decide +kernel
theorem dX9_does_329 : decode cX9_does 329 = .ok (.getfield 16, 3) := by decide +kernel
theorem dX9_does_33 : decode cX9_does 33 = .ok (.iaload, 1) := by decide +kernel
theorem dX9_does_332 : decode cX9_does 332 = .ok (.iload 6, 2) := by decide +kernel
theorem dX9_does_334 : decode cX9_does 334 = .ok (.iaload, 1) := by decide +kernel
theorem dX9_does_335 : decode cX9_does 335 = .ok (.iload 7, 2) := by decide +kernel
theorem dX9_does_337 : decode cX9_does 337 = .ok (.iload 8, 2) := by decide +kernel
theorem dX9_does_339 : decode cX9_does 339 = .ok (.iload 9, 2) := by decide +kernel
theorem dX9_does_34 : decode cX9_does 34 = .ok (.iadd, 1) := by decide +kernel
theorem dX9_does_341 : decode cX9_does 341 = .ok (.iload 10, 2) := by decide +kernel
theorem dX9_does_343 : decode cX9_does 343 = .ok (.invokevirtual 285, 3) := by decide +kernel
theorem dX9_does_346 : decode cX9_does 346 = .ok (.aload_n 0, 1) := by decide +kernel
theorem dX9_does_347 : decode cX9_does 347 = .ok (.getfield 75, 3) := by decide +kernel
theorem dX9_does_35 : decode cX9_does 35 = .ok (.istore 6, 2) := by decide +kernel
theorem dX9_does_350 : decode cX9_does 350 = .ok (.bipush 55, 2) := by decide +kernel
theorem dX9_does_352 : decode cX9_does 352 = .ok (.iload 5, 2) := by decide +kernel
theorem dX9_does_354 : decode cX9_does 354 = .ok (.iadd, 1) := by decide +kernel
theorem dX9_does_355 : decode cX9_does 355 = .ok (.iconst 0, 1) := by decide +kernel
theorem dX9_does_356 : decode cX9_does 356 = .ok (.iastore, 1) := by decide +kernel
theorem dX9_does_357 : decode cX9_does 357 = .ok (.return_, 1) := by decide +kernel
theorem dX9_does_37 : decode cX9_does 37 = .ok (.iconst 3, 1) := by decide +kernel
theorem dX9_does_38 : decode cX9_does 38 = .ok (.iconst 3, 1) := by decide +kernel
theorem dX9_does_39 : decode cX9_does 39 = .ok (.iload 5, 2) := by decide +kernel
theorem dX9_does_41 : decode cX9_does 41 = .ok (.imul, 1) := by decide +kernel
theorem dX9_does_42 : decode cX9_does 42 = .ok (.iadd, 1) := by decide +kernel
theorem dX9_does_43 : decode cX9_does 43 = .ok (.aload_n 0, 1) := by decide +kernel
theorem dX9_does_44 : decode cX9_does 44 = .ok (.getfield 22, 3) := by decide +kernel
theorem dX9_does_47 : decode cX9_does 47 = .ok (.iload 6, 2) := by decide +kernel
theorem dX9_does_49 : decode cX9_does 49 = .ok (.iaload, 1) := by decide +kernel
theorem dX9_does_5 : decode cX9_does 5 = .ok (.iload_n 3, 1) := by decide +kernel
theorem dX9_does_50 : decode cX9_does 50 = .ok (.ifCond .ge 7, 3) := by decide +kernel
theorem dX9_does_53 : decode cX9_does 53 = .ok (.iconst 0, 1) := by decide +kernel
theorem dX9_does_54 : decode cX9_does 54 = .ok (.goto 10, 3) := by decide +kernel
theorem dX9_does_57 : decode cX9_does 57 = .ok (.aload_n 0, 1) := by decide +kernel
theorem dX9_does_58 : decode cX9_does 58 = .ok (.getfield 22, 3) := by decide +kernel
theorem dX9_does_6 : decode cX9_does 6 = .ok (.iconst 2, 1) := by decide +kernel
theorem dX9_does_61 : decode cX9_does 61 = .ok (.iload 6, 2) := by decide +kernel
theorem dX9_does_63 : decode cX9_does 63 = .ok (.iaload, 1) := by decide +kernel
theorem dX9_does_64 : decode cX9_does 64 = .ok (.iadd, 1) := by decide +kernel
theorem dX9_does_65 : decode cX9_does 65 = .ok (.istore 7, 2) := by decide +kernel
theorem dX9_does_67 : decode cX9_does 67 = .ok (.aload_n 0, 1) := by decide +kernel
theorem dX9_does_68 : decode cX9_does 68 = .ok (.getfield 19, 3) := by decide +kernel
theorem dX9_does_7 : decode cX9_does 7 = .ok (.if_icmp .le 10, 3) := by decide +kernel
theorem dX9_does_71 : decode cX9_does 71 = .ok (.iload 6, 2) := by decide +kernel
theorem dX9_does_73 : decode cX9_does 73 = .ok (.iaload, 1) := by decide +kernel
theorem dX9_does_74 : decode cX9_does 74 = .ok (.istore 8, 2) := by decide +kernel
theorem dX9_does_76 : decode cX9_does 76 = .ok (.aload_n 0, 1) := by decide +kernel
theorem dX9_does_77 : decode cX9_does 77 = .ok (.iload 5, 2) := by decide +kernel
theorem dX9_does_79 : decode cX9_does 79 = .ok (.aload_n 0, 1) := by decide +kernel
theorem dX9_does_80 : decode cX9_does 80 = .ok (.getfield 25, 3) := by decide +kernel
theorem dX9_does_83 : decode cX9_does 83 = .ok (.iload 6, 2) := by decide +kernel
theorem dX9_does_85 : decode cX9_does 85 = .ok (.iaload, 1) := by decide +kernel
theorem dX9_does_86 : decode cX9_does 86 = .ok (.aload_n 0, 1) := by decide +kernel
theorem dX9_does_87 : decode cX9_does 87 = .ok (.getfield 28, 3) := by decide +kernel
theorem dX9_does_90 : decode cX9_does 90 = .ok (.iload 6, 2) := by decide +kernel
theorem dX9_does_92 : decode cX9_does 92 = .ok (.iaload, 1) := by decide +kernel
theorem dX9_does_93 : decode cX9_does 93 = .ok (.invokevirtual 273, 3) := by decide +kernel
theorem dX9_does_96 : decode cX9_does 96 = .ok (.istore 9, 2) := by decide +kernel
theorem dX9_does_98 : decode cX9_does 98 = .ok (.aload_n 0, 1) := by decide +kernel
theorem dX9_does_99 : decode cX9_does 99 = .ok (.iload 5, 2) := by decide +kernel
theorem updN_tw {L : Nat → Nat} {k a b d : Nat} (h : b = d) : updN (updN L k a) k b = updN L k d := by
  subst h
  funext j
  by_cases e : j = k
  · subst e; rw [updN_s, updN_s]
  · rw [updN_n e, updN_n e, updN_n e]