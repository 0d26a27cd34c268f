theorem dL_law_0 : decode cL_law 0 = .ok (.new 7, 3) := by decide +kernel
theorem dL_law_3 : decode cL_law 3 = .ok (.dup, 1) := by decide +kernel
theorem dL_law_4 : decode cL_law 4 = .ok (.invokespecial 9, 3) := by decide +kernel
theorem dL_law_7 : decode cL_law 7 = .ok (.astore_n 1, 1) := by decide +kernel
theorem dL_law_8 : decode cL_law 8 = .ok (.new 10, 3) := by decide +kernel
theorem dL_law_11 : decode cL_law 11 = .ok (.dup, 1) := by decide +kernel
theorem dL_law_12 : decode cL_law 12 = .ok (.invokespecial 12, 3) := by decide +kernel
theorem dL_law_15 : decode cL_law 15 = .ok (.astore_n 2, 1) := by decide +kernel
theorem dL_law_16 : decode cL_law 16 = .ok (.iconst 0, 1) := by decide +kernel
theorem dL_law_17 : decode cL_law 17 = .ok (.istore_n 3, 1) := by decide +kernel
theorem dL_law_18 : decode cL_law 18 = .ok (.iload_n 3, 1) := by decide +kernel
theorem dL_law_19 : decode cL_law 19 = .ok (.aload_n 0, 1) := by decide +kernel
theorem dL_law_20 : decode cL_law 20 = .ok (.arraylength, 1) := by decide +kernel
theorem dL_law_21 : decode cL_law 21 = .ok (.bipush 6, 2) := by decide +kernel
theorem dL_law_23 : decode cL_law 23 = .ok (.isub, 1) := by decide +kernel
theorem dL_law_24 : decode cL_law 24 = .ok (.if_icmp .gt 687, 3) := by decide +kernel
theorem dL_law_27 : decode cL_law 27 = .ok (.aload_n 0, 1) := by decide +kernel
theorem dL_law_28 : decode cL_law 28 = .ok (.iload_n 3, 1) := by decide +kernel
theorem dL_law_29 : decode cL_law 29 = .ok (.iaload, 1) := by decide +kernel
theorem dL_law_30 : decode cL_law 30 = .ok (.bipush 31, 2) := by decide +kernel
theorem dL_law_32 : decode cL_law 32 = .ok (.iand, 1) := by decide +kernel
theorem dL_law_33 : decode cL_law 33 = .ok (.tableswitch 672 0 20 #[99, 162, 185, 198, 211, 254, 277, 300, 313, 346, 369, 392, 435, 458, 501, 544, 567, 580, 603, 626, 649], 99) := by decide +kernel
theorem dL_law_132 : decode cL_law 132 = .ok (.aload_n 1, 1) := by decide +kernel
theorem dL_law_133 : decode cL_law 133 = .ok (.aload_n 0, 1) := by decide +kernel
theorem dL_law_134 : decode cL_law 134 = .ok (.iload_n 3, 1) := by decide +kernel
theorem dL_law_135 : decode cL_law 135 = .ok (.iconst 1, 1) := by decide +kernel
theorem dL_law_136 : decode cL_law 136 = .ok (.iadd, 1) := by decide +kernel
theorem dL_law_137 : decode cL_law 137 = .ok (.iaload, 1) := by decide +kernel
theorem dL_law_138 : decode cL_law 138 = .ok (.aload_n 0, 1) := by decide +kernel
theorem dL_law_139 : decode cL_law 139 = .ok (.iload_n 3, 1) := by decide +kernel
theorem dL_law_140 : decode cL_law 140 = .ok (.iconst 2, 1) := by decide +kernel
theorem dL_law_141 : decode cL_law 141 = .ok (.iadd, 1) := by decide +kernel
theorem dL_law_142 : decode cL_law 142 = .ok (.iaload, 1) := by decide +kernel
theorem dL_law_143 : decode cL_law 143 = .ok (.aload_n 0, 1) := by decide +kernel
theorem dL_law_144 : decode cL_law 144 = .ok (.iload_n 3, 1) := by decide +kernel
theorem dL_law_145 : decode cL_law 145 = .ok (.iconst 3, 1) := by decide +kernel
theorem dL_law_146 : decode cL_law 146 = .ok (.iadd, 1) := by decide +kernel
theorem dL_law_147 : decode cL_law 147 = .ok (.iaload, 1) := by decide +kernel
theorem dL_law_148 : decode cL_law 148 = .ok (.aload_n 0, 1) := by decide +kernel
theorem dL_law_149 : decode cL_law 149 = .ok (.iload_n 3, 1) := by decide +kernel
theorem dL_law_150 : decode cL_law 150 = .ok (.iconst 4, 1) := by decide +kernel
theorem dL_law_151 : decode cL_law 151 = .ok (.iadd, 1) := by decide +kernel
theorem dL_law_152 : decode cL_law 152 = .ok (.iaload, 1) := by decide +kernel
theorem dL_law_153 : decode cL_law 153 = .ok (.aload_n 0, 1) := by decide +kernel
theorem dL_law_154 : decode cL_law 154 = .ok (.iload_n 3, 1) := by decide +kernel
theorem dL_law_155 : decode cL_law 155 = .ok (.iconst 5, 1) := by decide +kernel
theorem dL_law_156 : decode cL_law 156 = .ok (.iadd, 1) := by decide +kernel
theorem dL_law_157 : decode cL_law 157 = .ok (.iaload, 1) := by decide +kernel
theorem dL_law_158 : decode cL_law 158 = .ok (.invokevirtual 13, 3) := by decide +kernel
theorem dL_law_161 : decode cL_law 161 = .ok (.pop, 1) := by decide +kernel
theorem dL_law_162 : decode cL_law 162 = .ok (.aload_n 2, 1) := by decide +kernel
theorem dL_law_163 : decode cL_law 163 = .ok (.aload_n 0, 1) := by decide +kernel
theorem dL_law_164 : decode cL_law 164 = .ok (.iload_n 3, 1) := by decide +kernel
theorem dL_law_165 : decode cL_law 165 = .ok (.iconst 1, 1) := by decide +kernel
theorem dL_law_166 : decode cL_law 166 = .ok (.iadd, 1) := by decide +kernel
theorem dL_law_167 : decode cL_law 167 = .ok (.iaload, 1) := by decide +kernel
theorem dL_law_168 : decode cL_law 168 = .ok (.aload_n 0, 1) := by decide +kernel
theorem dL_law_169 : decode cL_law 169 = .ok (.iload_n 3, 1) := by decide +kernel
theorem dL_law_170 : decode cL_law 170 = .ok (.iconst 2, 1) := by decide +kernel
theorem dL_law_171 : decode cL_law 171 = .ok (.iadd, 1) := by decide +kernel
theorem dL_law_172 : decode cL_law 172 = .ok (.iaload, 1) := by decide +kernel
theorem dL_law_173 : decode cL_law 173 = .ok (.aload_n 0, 1) := by decide +kernel
theorem dL_law_174 : decode cL_law 174 = .ok (.iload_n 3, 1) := by decide +kernel
theorem dL_law_175 : decode cL_law 175 = .ok (.iconst 3, 1) := by decide +kernel
theorem dL_law_176 : decode cL_law 176 = .ok (.iadd, 1) := by decide +kernel
theorem dL_law_177 : decode cL_law 177 = .ok (.iaload, 1) := by decide +kernel
theorem dL_law_178 : decode cL_law 178 = .ok (.aload_n 0, 1) := by decide +kernel
theorem dL_law_179 : decode cL_law 179 = .ok (.iload_n 3, 1) := by decide +kernel
theorem dL_law_180 : decode cL_law 180 = .ok (.iconst 4, 1) := by decide +kernel
theorem dL_law_181 : decode cL_law 181 = .ok (.iadd, 1) := by decide +kernel
theorem dL_law_182 : decode cL_law 182 = .ok (.iaload, 1) := by decide +kernel
theorem dL_law_183 : decode cL_law 183 = .ok (.aload_n 0, 1) := by decide +kernel
theorem dL_law_184 : decode cL_law 184 = .ok (.iload_n 3, 1) := by decide +kernel
theorem dL_law_185 : decode cL_law 185 = .ok (.iconst 5, 1) := by decide +kernel
theorem dL_law_186 : decode cL_law 186 = .ok (.iadd, 1) := by decide +kernel
theorem dL_law_187 : decode cL_law 187 = .ok (.iaload, 1) := by decide +kernel
theorem dL_law_188 : decode cL_law 188 = .ok (.invokevirtual 17, 3) := by decide +kernel
theorem dL_law_191 : decode cL_law 191 = .ok (.pop, 1) := by decide +kernel
theorem dL_law_192 : decode cL_law 192 = .ok (.goto 513, 3) := by decide +kernel
theorem dL_law_195 : decode cL_law 195 = .ok (.aload_n 1, 1) := by decide +kernel
theorem dL_law_196 : decode cL_law 196 = .ok (.aload_n 0, 1) := by decide +kernel
theorem dL_law_197 : decode cL_law 197 = .ok (.iload_n 3, 1) := by decide +kernel
theorem dL_law_198 : decode cL_law 198 = .ok (.iconst 1, 1) := by decide +kernel
theorem dL_law_199 : decode cL_law 199 = .ok (.iadd, 1) := by decide +kernel
theorem dL_law_200 : decode cL_law 200 = .ok (.iaload, 1) := by decide +kernel
theorem dL_law_201 : decode cL_law 201 = .ok (.invokevirtual 18, 3) := by decide +kernel
theorem dL_law_204 : decode cL_law 204 = .ok (.pop, 1) := by decide +kernel
theorem dL_law_205 : decode cL_law 205 = .ok (.aload_n 2, 1) := by decide +kernel
theorem dL_law_206 : decode cL_law 206 = .ok (.aload_n 0, 1) := by decide +kernel
theorem dL_law_207 : decode cL_law 207 = .ok (.iload_n 3, 1) := by decide +kernel
theorem dL_law_208 : decode cL_law 208 = .ok (.iconst 1, 1) := by decide +kernel
theorem dL_law_209 : decode cL_law 209 = .ok (.iadd, 1) := by decide +kernel
theorem dL_law_210 : decode cL_law 210 = .ok (.iaload, 1) := by decide +kernel
theorem dL_law_211 : decode cL_law 211 = .ok (.invokevirtual 22, 3) := by decide +kernel
theorem dL_law_214 : decode cL_law 214 = .ok (.pop, 1) := by decide +kernel
theorem dL_law_215 : decode cL_law 215 = .ok (.goto 490, 3) := by decide +kernel
theorem dL_law_218 : decode cL_law 218 = .ok (.aload_n 1, 1) := by decide +kernel
theorem dL_law_219 : decode cL_law 219 = .ok (.invokevirtual 23, 3) := by decide +kernel
theorem dL_law_222 : decode cL_law 222 = .ok (.pop, 1) := by decide +kernel
theorem dL_law_223 : decode cL_law 223 = .ok (.aload_n 2, 1) := by decide +kernel
theorem dL_law_224 : decode cL_law 224 = .ok (.invokevirtual 27, 3) := by decide +kernel
theorem dL_law_227 : decode cL_law 227 = .ok (.pop, 1) := by decide +kernel
theorem dL_law_228 : decode cL_law 228 = .ok (.goto 477, 3) := by decide +kernel
theorem dL_law_231 : decode cL_law 231 = .ok (.aload_n 1, 1) := by decide +kernel
theorem dL_law_232 : decode cL_law 232 = .ok (.invokevirtual 28, 3) := by decide +kernel
theorem dL_law_235 : decode cL_law 235 = .ok (.pop, 1) := by decide +kernel
theorem dL_law_236 : decode cL_law 236 = .ok (.aload_n 2, 1) := by decide +kernel
theorem dL_law_237 : decode cL_law 237 = .ok (.invokevirtual 31, 3) := by decide +kernel
theorem dL_law_240 : decode cL_law 240 = .ok (.pop, 1) := by decide +kernel
theorem dL_law_241 : decode cL_law 241 = .ok (.goto 464, 3) := by decide +kernel
theorem dL_law_244 : decode cL_law 244 = .ok (.aload_n 1, 1) := by decide +kernel
theorem dL_law_245 : decode cL_law 245 = .ok (.aload_n 0, 1) := by decide +kernel
theorem dL_law_246 : decode cL_law 246 = .ok (.iload_n 3, 1) := by decide +kernel
theorem dL_law_247 : decode cL_law 247 = .ok (.iconst 1, 1) := by decide +kernel
theorem dL_law_248 : decode cL_law 248 = .ok (.iadd, 1) := by decide +kernel
theorem dL_law_249 : decode cL_law 249 = .ok (.iaload, 1) := by decide +kernel
theorem dL_law_250 : decode cL_law 250 = .ok (.aload_n 0, 1) := by decide +kernel
theorem dL_law_251 : decode cL_law 251 = .ok (.iload_n 3, 1) := by decide +kernel
theorem dL_law_252 : decode cL_law 252 = .ok (.iconst 2, 1) := by decide +kernel
theorem dL_law_253 : decode cL_law 253 = .ok (.iadd, 1) := by decide +kernel
theorem dL_law_254 : decode cL_law 254 = .ok (.iaload, 1) := by decide +kernel
theorem dL_law_255 : decode cL_law 255 = .ok (.aload_n 0, 1) := by decide +kernel
theorem dL_law_256 : decode cL_law 256 = .ok (.iload_n 3, 1) := by decide +kernel
theorem dL_law_257 : decode cL_law 257 = .ok (.iconst 3, 1) := by decide +kernel
theorem dL_law_258 : decode cL_law 258 = .ok (.iadd, 1) := by decide +kernel
theorem dL_law_259 : decode cL_law 259 = .ok (.iaload, 1) := by decide +kernel
theorem dL_law_260 : decode cL_law 260 = .ok (.invokevirtual 32, 3) := by decide +kernel
theorem dL_law_263 : decode cL_law 263 = .ok (.pop, 1) := by decide +kernel
theorem dL_law_264 : decode cL_law 264 = .ok (.aload_n 2, 1) := by decide +kernel
theorem dL_law_265 : decode cL_law 265 = .ok (.aload_n 0, 1) := by decide +kernel
theorem dL_law_266 : decode cL_law 266 = .ok (.iload_n 3, 1) := by decide +kernel
theorem dL_law_267 : decode cL_law 267 = .ok (.iconst 1, 1) := by decide +kernel
theorem dL_law_268 : decode cL_law 268 = .ok (.iadd, 1) := by decide +kernel
theorem dL_law_269 : decode cL_law 269 = .ok (.iaload, 1) := by decide +kernel
theorem dL_law_270 : decode cL_law 270 = .ok (.aload_n 0, 1) := by decide +kernel
theorem dL_law_271 : decode cL_law 271 = .ok (.iload_n 3, 1) := by decide +kernel
theorem dL_law_272 : decode cL_law 272 = .ok (.iconst 2, 1) := by decide +kernel
theorem dL_law_273 : decode cL_law 273 = .ok (.iadd, 1) := by decide +kernel
theorem dL_law_274 : decode cL_law 274 = .ok (.iaload, 1) := by decide +kernel
theorem dL_law_275 : decode cL_law 275 = .ok (.aload_n 0, 1) := by decide +kernel
theorem dL_law_276 : decode cL_law 276 = .ok (.iload_n 3, 1) := by decide +kernel
theorem dL_law_277 : decode cL_law 277 = .ok (.iconst 3, 1) := by decide +kernel
theorem dL_law_278 : decode cL_law 278 = .ok (.iadd, 1) := by decide +kernel
theorem dL_law_279 : decode cL_law 279 = .ok (.iaload, 1) := by decide +kernel
theorem dL_law_280 : decode cL_law 280 = .ok (.invokevirtual 36, 3) := by decide +kernel
theorem dL_law_283 : decode cL_law 283 = .ok (.pop, 1) := by decide +kernel
theorem dL_law_284 : decode cL_law 284 = .ok (.goto 421, 3) := by decide +kernel
theorem dL_law_287 : decode cL_law 287 = .ok (.aload_n 1, 1) := by decide +kernel
theorem dL_law_288 : decode cL_law 288 = .ok (.aload_n 0, 1) := by decide +kernel
theorem dL_law_289 : decode cL_law 289 = .ok (.iload_n 3, 1) := by decide +kernel
theorem dL_law_290 : decode cL_law 290 = .ok (.iconst 1, 1) := by decide +kernel
theorem dL_law_291 : decode cL_law 291 = .ok (.iadd, 1) := by decide +kernel
theorem dL_law_292 : decode cL_law 292 = .ok (.iaload, 1) := by decide +kernel
theorem dL_law_293 : decode cL_law 293 = .ok (.invokevirtual 37, 3) := by decide +kernel
theorem dL_law_296 : decode cL_law 296 = .ok (.pop, 1) := by decide +kernel
theorem dL_law_297 : decode cL_law 297 = .ok (.aload_n 2, 1) := by decide +kernel
theorem dL_law_298 : decode cL_law 298 = .ok (.aload_n 0, 1) := by decide +kernel
theorem dL_law_299 : decode cL_law 299 = .ok (.iload_n 3, 1) := by decide +kernel
theorem dL_law_300 : decode cL_law 300 = .ok (.iconst 1, 1) := by decide +kernel
theorem dL_law_301 : decode cL_law 301 = .ok (.iadd, 1) := by decide +kernel
theorem dL_law_302 : decode cL_law 302 = .ok (.iaload, 1) := by decide +kernel
theorem dL_law_303 : decode cL_law 303 = .ok (.invokevirtual 41, 3) := by decide +kernel
theorem dL_law_306 : decode cL_law 306 = .ok (.pop, 1) := by decide +kernel
theorem dL_law_307 : decode cL_law 307 = .ok (.goto 398, 3) := by decide +kernel
theorem dL_law_310 : decode cL_law 310 = .ok (.aload_n 1, 1) := by decide +kernel
theorem dL_law_311 : decode cL_law 311 = .ok (.aload_n 0, 1) := by decide +kernel
theorem dL_law_312 : decode cL_law 312 = .ok (.iload_n 3, 1) := by decide +kernel
theorem dL_law_313 : decode cL_law 313 = .ok (.iconst 1, 1) := by decide +kernel
theorem dL_law_314 : decode cL_law 314 = .ok (.iadd, 1) := by decide +kernel
theorem dL_law_315 : decode cL_law 315 = .ok (.iaload, 1) := by decide +kernel
theorem dL_law_316 : decode cL_law 316 = .ok (.invokevirtual 42, 3) := by decide +kernel
theorem dL_law_319 : decode cL_law 319 = .ok (.pop, 1) := by decide +kernel
theorem dL_law_320 : decode cL_law 320 = .ok (.aload_n 2, 1) := by decide +kernel
theorem dL_law_321 : decode cL_law 321 = .ok (.aload_n 0, 1) := by decide +kernel
theorem dL_law_322 : decode cL_law 322 = .ok (.iload_n 3, 1) := by decide +kernel
theorem dL_law_323 : decode cL_law 323 = .ok (.iconst 1, 1) := by decide +kernel
theorem dL_law_324 : decode cL_law 324 = .ok (.iadd, 1) := by decide +kernel
theorem dL_law_325 : decode cL_law 325 = .ok (.iaload, 1) := by decide +kernel
theorem dL_law_326 : decode cL_law 326 = .ok (.invokevirtual 45, 3) := by decide +kernel
theorem dL_law_329 : decode cL_law 329 = .ok (.pop, 1) := by decide +kernel
theorem dL_law_330 : decode cL_law 330 = .ok (.goto 375, 3) := by decide +kernel
theorem dL_law_333 : decode cL_law 333 = .ok (.aload_n 1, 1) := by decide +kernel
theorem dL_law_334 : decode cL_law 334 = .ok (.invokevirtual 46, 3) := by decide +kernel
theorem dL_law_337 : decode cL_law 337 = .ok (.pop, 1) := by decide +kernel
theorem dL_law_338 : decode cL_law 338 = .ok (.aload_n 2, 1) := by decide +kernel
theorem dL_law_339 : decode cL_law 339 = .ok (.invokevirtual 50, 3) := by decide +kernel
theorem dL_law_342 : decode cL_law 342 = .ok (.pop, 1) := by decide +kernel
theorem dL_law_343 : decode cL_law 343 = .ok (.goto 362, 3) := by decide +kernel
theorem dL_law_346 : decode cL_law 346 = .ok (.aload_n 1, 1) := by decide +kernel
theorem dL_law_347 : decode cL_law 347 = .ok (.aload_n 0, 1) := by decide +kernel
theorem dL_law_348 : decode cL_law 348 = .ok (.iload_n 3, 1) := by decide +kernel
theorem dL_law_349 : decode cL_law 349 = .ok (.iconst 1, 1) := by decide +kernel
theorem dL_law_350 : decode cL_law 350 = .ok (.iadd, 1) := by decide +kernel
theorem dL_law_351 : decode cL_law 351 = .ok (.iaload, 1) := by decide +kernel
theorem dL_law_352 : decode cL_law 352 = .ok (.aload_n 0, 1) := by decide +kernel
theorem dL_law_353 : decode cL_law 353 = .ok (.iload_n 3, 1) := by decide +kernel
theorem dL_law_354 : decode cL_law 354 = .ok (.iconst 2, 1) := by decide +kernel
theorem dL_law_355 : decode cL_law 355 = .ok (.iadd, 1) := by decide +kernel
theorem dL_law_356 : decode cL_law 356 = .ok (.iaload, 1) := by decide +kernel
theorem dL_law_357 : decode cL_law 357 = .ok (.invokevirtual 51, 3) := by decide +kernel
theorem dL_law_360 : decode cL_law 360 = .ok (.pop, 1) := by decide +kernel
theorem dL_law_361 : decode cL_law 361 = .ok (.aload_n 2, 1) := by decide +kernel
theorem dL_law_362 : decode cL_law 362 = .ok (.aload_n 0, 1) := by decide +kernel
theorem dL_law_363 : decode cL_law 363 = .ok (.iload_n 3, 1) := by decide +kernel
theorem dL_law_364 : decode cL_law 364 = .ok (.iconst 1, 1) := by decide +kernel
theorem dL_law_365 : decode cL_law 365 = .ok (.iadd, 1) := by decide +kernel
theorem dL_law_366 : decode cL_law 366 = .ok (.iaload, 1) := by decide +kernel
theorem dL_law_367 : decode cL_law 367 = .ok (.aload_n 0, 1) := by decide +kernel
theorem dL_law_368 : decode cL_law 368 = .ok (.iload_n 3, 1) := by decide +kernel
theorem dL_law_369 : decode cL_law 369 = .ok (.iconst 2, 1) := by decide +kernel
theorem dL_law_370 : decode cL_law 370 = .ok (.iadd, 1) := by decide +kernel
theorem dL_law_371 : decode cL_law 371 = .ok (.iaload, 1) := by decide +kernel
theorem dL_law_372 : decode cL_law 372 = .ok (.invokevirtual 55, 3) := by decide +kernel
theorem dL_law_375 : decode cL_law 375 = .ok (.pop, 1) := by decide +kernel
theorem dL_law_376 : decode cL_law 376 = .ok (.goto 329, 3) := by decide +kernel
theorem dL_law_379 : decode cL_law 379 = .ok (.aload_n 1, 1) := by decide +kernel
theorem dL_law_380 : decode cL_law 380 = .ok (.aload_n 0, 1) := by decide +kernel
theorem dL_law_381 : decode cL_law 381 = .ok (.iload_n 3, 1) := by decide +kernel
theorem dL_law_382 : decode cL_law 382 = .ok (.iconst 1, 1) := by decide +kernel
theorem dL_law_383 : decode cL_law 383 = .ok (.iadd, 1) := by decide +kernel
theorem dL_law_384 : decode cL_law 384 = .ok (.iaload, 1) := by decide +kernel
theorem dL_law_385 : decode cL_law 385 = .ok (.invokevirtual 56, 3) := by decide +kernel
theorem dL_law_388 : decode cL_law 388 = .ok (.pop, 1) := by decide +kernel
theorem dL_law_389 : decode cL_law 389 = .ok (.aload_n 2, 1) := by decide +kernel
theorem dL_law_390 : decode cL_law 390 = .ok (.aload_n 0, 1) := by decide +kernel
theorem dL_law_391 : decode cL_law 391 = .ok (.iload_n 3, 1) := by decide +kernel
theorem dL_law_392 : decode cL_law 392 = .ok (.iconst 1, 1) := by decide +kernel
theorem dL_law_393 : decode cL_law 393 = .ok (.iadd, 1) := by decide +kernel
theorem dL_law_394 : decode cL_law 394 = .ok (.iaload, 1) := by decide +kernel
theorem dL_law_395 : decode cL_law 395 = .ok (.invokevirtual 59, 3) := by decide +kernel
theorem dL_law_398 : decode cL_law 398 = .ok (.pop, 1) := by decide +kernel
theorem dL_law_399 : decode cL_law 399 = .ok (.goto 306, 3) := by decide +kernel
theorem dL_law_402 : decode cL_law 402 = .ok (.aload_n 1, 1) := by decide +kernel
theorem dL_law_403 : decode cL_law 403 = .ok (.aload_n 0, 1) := by decide +kernel
theorem dL_law_404 : decode cL_law 404 = .ok (.iload_n 3, 1) := by decide +kernel
theorem dL_law_405 : decode cL_law 405 = .ok (.iconst 1, 1) := by decide +kernel
theorem dL_law_406 : decode cL_law 406 = .ok (.iadd, 1) := by decide +kernel
theorem dL_law_407 : decode cL_law 407 = .ok (.iaload, 1) := by decide +kernel
theorem dL_law_408 : decode cL_law 408 = .ok (.invokevirtual 60, 3) := by decide +kernel
theorem dL_law_411 : decode cL_law 411 = .ok (.pop, 1) := by decide +kernel
theorem dL_law_412 : decode cL_law 412 = .ok (.aload_n 2, 1) := by decide +kernel
theorem dL_law_413 : decode cL_law 413 = .ok (.aload_n 0, 1) := by decide +kernel
theorem dL_law_414 : decode cL_law 414 = .ok (.iload_n 3, 1) := by decide +kernel
theorem dL_law_415 : decode cL_law 415 = .ok (.iconst 1, 1) := by decide +kernel
theorem dL_law_416 : decode cL_law 416 = .ok (.iadd, 1) := by decide +kernel
theorem dL_law_417 : decode cL_law 417 = .ok (.iaload, 1) := by decide +kernel
theorem dL_law_418 : decode cL_law 418 = .ok (.invokevirtual 63, 3) := by decide +kernel
theorem dL_law_421 : decode cL_law 421 = .ok (.pop, 1) := by decide +kernel
theorem dL_law_422 : decode cL_law 422 = .ok (.goto 283, 3) := by decide +kernel
theorem dL_law_425 : decode cL_law 425 = .ok (.aload_n 1, 1) := by decide +kernel
theorem dL_law_426 : decode cL_law 426 = .ok (.aload_n 0, 1) := by decide +kernel
theorem dL_law_427 : decode cL_law 427 = .ok (.iload_n 3, 1) := by decide +kernel
theorem dL_law_428 : decode cL_law 428 = .ok (.iconst 1, 1) := by decide +kernel
theorem dL_law_429 : decode cL_law 429 = .ok (.iadd, 1) := by decide +kernel
theorem dL_law_430 : decode cL_law 430 = .ok (.iaload, 1) := by decide +kernel
theorem dL_law_431 : decode cL_law 431 = .ok (.aload_n 0, 1) := by decide +kernel
theorem dL_law_432 : decode cL_law 432 = .ok (.iload_n 3, 1) := by decide +kernel
theorem dL_law_433 : decode cL_law 433 = .ok (.iconst 2, 1) := by decide +kernel
theorem dL_law_434 : decode cL_law 434 = .ok (.iadd, 1) := by decide +kernel
theorem dL_law_435 : decode cL_law 435 = .ok (.iaload, 1) := by decide +kernel
theorem dL_law_436 : decode cL_law 436 = .ok (.aload_n 0, 1) := by decide +kernel
theorem dL_law_437 : decode cL_law 437 = .ok (.iload_n 3, 1) := by decide +kernel
theorem dL_law_438 : decode cL_law 438 = .ok (.iconst 3, 1) := by decide +kernel
theorem dL_law_439 : decode cL_law 439 = .ok (.iadd, 1) := by decide +kernel
theorem dL_law_440 : decode cL_law 440 = .ok (.iaload, 1) := by decide +kernel
theorem dL_law_441 : decode cL_law 441 = .ok (.invokevirtual 64, 3) := by decide +kernel
theorem dL_law_444 : decode cL_law 444 = .ok (.pop, 1) := by decide +kernel
theorem dL_law_445 : decode cL_law 445 = .ok (.aload_n 2, 1) := by decide +kernel
theorem dL_law_446 : decode cL_law 446 = .ok (.aload_n 0, 1) := by decide +kernel
theorem dL_law_447 : decode cL_law 447 = .ok (.iload_n 3, 1) := by decide +kernel
theorem dL_law_448 : decode cL_law 448 = .ok (.iconst 1, 1) := by decide +kernel
theorem dL_law_449 : decode cL_law 449 = .ok (.iadd, 1) := by decide +kernel
theorem dL_law_450 : decode cL_law 450 = .ok (.iaload, 1) := by decide +kernel
theorem dL_law_451 : decode cL_law 451 = .ok (.aload_n 0, 1) := by decide +kernel
theorem dL_law_452 : decode cL_law 452 = .ok (.iload_n 3, 1) := by decide +kernel
theorem dL_law_453 : decode cL_law 453 = .ok (.iconst 2, 1) := by decide +kernel
theorem dL_law_454 : decode cL_law 454 = .ok (.iadd, 1) := by decide +kernel
theorem dL_law_455 : decode cL_law 455 = .ok (.iaload, 1) := by decide +kernel
theorem dL_law_456 : decode cL_law 456 = .ok (.aload_n 0, 1) := by decide +kernel
theorem dL_law_457 : decode cL_law 457 = .ok (.iload_n 3, 1) := by decide +kernel
theorem dL_law_458 : decode cL_law 458 = .ok (.iconst 3, 1) := by decide +kernel
theorem dL_law_459 : decode cL_law 459 = .ok (.iadd, 1) := by decide +kernel
theorem dL_law_460 : decode cL_law 460 = .ok (.iaload, 1) := by decide +kernel
theorem dL_law_461 : decode cL_law 461 = .ok (.invokevirtual 67, 3) := by decide +kernel
theorem dL_law_464 : decode cL_law 464 = .ok (.pop, 1) := by decide +kernel
theorem dL_law_465 : decode cL_law 465 = .ok (.goto 240, 3) := by decide +kernel
theorem dL_law_468 : decode cL_law 468 = .ok (.aload_n 1, 1) := by decide +kernel
theorem dL_law_469 : decode cL_law 469 = .ok (.aload_n 0, 1) := by decide +kernel
theorem dL_law_470 : decode cL_law 470 = .ok (.iload_n 3, 1) := by decide +kernel
theorem dL_law_471 : decode cL_law 471 = .ok (.iconst 1, 1) := by decide +kernel
theorem dL_law_472 : decode cL_law 472 = .ok (.iadd, 1) := by decide +kernel
theorem dL_law_473 : decode cL_law 473 = .ok (.iaload, 1) := by decide +kernel
theorem dL_law_474 : decode cL_law 474 = .ok (.invokevirtual 68, 3) := by decide +kernel
theorem dL_law_477 : decode cL_law 477 = .ok (.pop, 1) := by decide +kernel
theorem dL_law_478 : decode cL_law 478 = .ok (.aload_n 2, 1) := by decide +kernel
theorem dL_law_479 : decode cL_law 479 = .ok (.aload_n 0, 1) := by decide +kernel
theorem dL_law_480 : decode cL_law 480 = .ok (.iload_n 3, 1) := by decide +kernel
theorem dL_law_481 : decode cL_law 481 = .ok (.iconst 1, 1) := by decide +kernel
theorem dL_law_482 : decode cL_law 482 = .ok (.iadd, 1) := by decide +kernel
theorem dL_law_483 : decode cL_law 483 = .ok (.iaload, 1) := by decide +kernel
theorem dL_law_484 : decode cL_law 484 = .ok (.invokevirtual 71, 3) := by decide +kernel
theorem dL_law_487 : decode cL_law 487 = .ok (.pop, 1) := by decide +kernel
theorem dL_law_488 : decode cL_law 488 = .ok (.goto 217, 3) := by decide +kernel
theorem dL_law_491 : decode cL_law 491 = .ok (.aload_n 1, 1) := by decide +kernel
theorem dL_law_492 : decode cL_law 492 = .ok (.aload_n 0, 1) := by decide +kernel
theorem dL_law_493 : decode cL_law 493 = .ok (.iload_n 3, 1) := by decide +kernel
theorem dL_law_494 : decode cL_law 494 = .ok (.iconst 1, 1) := by decide +kernel
theorem dL_law_495 : decode cL_law 495 = .ok (.iadd, 1) := by decide +kernel
theorem dL_law_496 : decode cL_law 496 = .ok (.iaload, 1) := by decide +kernel
theorem dL_law_497 : decode cL_law 497 = .ok (.aload_n 0, 1) := by decide +kernel
theorem dL_law_498 : decode cL_law 498 = .ok (.iload_n 3, 1) := by decide +kernel
theorem dL_law_499 : decode cL_law 499 = .ok (.iconst 2, 1) := by decide +kernel
theorem dL_law_500 : decode cL_law 500 = .ok (.iadd, 1) := by decide +kernel
theorem dL_law_501 : decode cL_law 501 = .ok (.iaload, 1) := by decide +kernel
theorem dL_law_502 : decode cL_law 502 = .ok (.aload_n 0, 1) := by decide +kernel
theorem dL_law_503 : decode cL_law 503 = .ok (.iload_n 3, 1) := by decide +kernel
theorem dL_law_504 : decode cL_law 504 = .ok (.iconst 3, 1) := by decide +kernel
theorem dL_law_505 : decode cL_law 505 = .ok (.iadd, 1) := by decide +kernel
theorem dL_law_506 : decode cL_law 506 = .ok (.iaload, 1) := by decide +kernel
theorem dL_law_507 : decode cL_law 507 = .ok (.invokevirtual 72, 3) := by decide +kernel
theorem dL_law_510 : decode cL_law 510 = .ok (.pop, 1) := by decide +kernel
theorem dL_law_511 : decode cL_law 511 = .ok (.aload_n 2, 1) := by decide +kernel
theorem dL_law_512 : decode cL_law 512 = .ok (.aload_n 0, 1) := by decide +kernel
theorem dL_law_513 : decode cL_law 513 = .ok (.iload_n 3, 1) := by decide +kernel
theorem dL_law_514 : decode cL_law 514 = .ok (.iconst 1, 1) := by decide +kernel
theorem dL_law_515 : decode cL_law 515 = .ok (.iadd, 1) := by decide +kernel
theorem dL_law_516 : decode cL_law 516 = .ok (.iaload, 1) := by decide +kernel
theorem dL_law_517 : decode cL_law 517 = .ok (.aload_n 0, 1) := by decide +kernel
theorem dL_law_518 : decode cL_law 518 = .ok (.iload_n 3, 1) := by decide +kernel
theorem dL_law_519 : decode cL_law 519 = .ok (.iconst 2, 1) := by decide +kernel
theorem dL_law_520 : decode cL_law 520 = .ok (.iadd, 1) := by decide +kernel
theorem dL_law_521 : decode cL_law 521 = .ok (.iaload, 1) := by decide +kernel
theorem dL_law_522 : decode cL_law 522 = .ok (.aload_n 0, 1) := by decide +kernel
theorem dL_law_523 : decode cL_law 523 = .ok (.iload_n 3, 1) := by decide +kernel
theorem dL_law_524 : decode cL_law 524 = .ok (.iconst 3, 1) := by decide +kernel
theorem dL_law_525 : decode cL_law 525 = .ok (.iadd, 1) := by decide +kernel
theorem dL_law_526 : decode cL_law 526 = .ok (.iaload, 1) := by decide +kernel
theorem dL_law_527 : decode cL_law 527 = .ok (.invokevirtual 75, 3) := by decide +kernel
theorem dL_law_530 : decode cL_law 530 = .ok (.pop, 1) := by decide +kernel
theorem dL_law_531 : decode cL_law 531 = .ok (.goto 174, 3) := by decide +kernel
theorem dL_law_534 : decode cL_law 534 = .ok (.aload_n 1, 1) := by decide +kernel
theorem dL_law_535 : decode cL_law 535 = .ok (.aload_n 0, 1) := by decide +kernel
theorem dL_law_536 : decode cL_law 536 = .ok (.iload_n 3, 1) := by decide +kernel
theorem dL_law_537 : decode cL_law 537 = .ok (.iconst 1, 1) := by decide +kernel
theorem dL_law_538 : decode cL_law 538 = .ok (.iadd, 1) := by decide +kernel
theorem dL_law_539 : decode cL_law 539 = .ok (.iaload, 1) := by decide +kernel
theorem dL_law_540 : decode cL_law 540 = .ok (.aload_n 0, 1) := by decide +kernel
theorem dL_law_541 : decode cL_law 541 = .ok (.iload_n 3, 1) := by decide +kernel
theorem dL_law_542 : decode cL_law 542 = .ok (.iconst 2, 1) := by decide +kernel
theorem dL_law_543 : decode cL_law 543 = .ok (.iadd, 1) := by decide +kernel
theorem dL_law_544 : decode cL_law 544 = .ok (.iaload, 1) := by decide +kernel
theorem dL_law_545 : decode cL_law 545 = .ok (.aload_n 0, 1) := by decide +kernel
theorem dL_law_546 : decode cL_law 546 = .ok (.iload_n 3, 1) := by decide +kernel
theorem dL_law_547 : decode cL_law 547 = .ok (.iconst 3, 1) := by decide +kernel
theorem dL_law_548 : decode cL_law 548 = .ok (.iadd, 1) := by decide +kernel
theorem dL_law_549 : decode cL_law 549 = .ok (.iaload, 1) := by decide +kernel
theorem dL_law_550 : decode cL_law 550 = .ok (.invokevirtual 76, 3) := by decide +kernel
theorem dL_law_553 : decode cL_law 553 = .ok (.pop, 1) := by decide +kernel
theorem dL_law_554 : decode cL_law 554 = .ok (.aload_n 2, 1) := by decide +kernel
theorem dL_law_555 : decode cL_law 555 = .ok (.aload_n 0, 1) := by decide +kernel
theorem dL_law_556 : decode cL_law 556 = .ok (.iload_n 3, 1) := by decide +kernel
theorem dL_law_557 : decode cL_law 557 = .ok (.iconst 1, 1) := by decide +kernel
theorem dL_law_558 : decode cL_law 558 = .ok (.iadd, 1) := by decide +kernel
theorem dL_law_559 : decode cL_law 559 = .ok (.iaload, 1) := by decide +kernel
theorem dL_law_560 : decode cL_law 560 = .ok (.aload_n 0, 1) := by decide +kernel
theorem dL_law_561 : decode cL_law 561 = .ok (.iload_n 3, 1) := by decide +kernel
theorem dL_law_562 : decode cL_law 562 = .ok (.iconst 2, 1) := by decide +kernel
theorem dL_law_563 : decode cL_law 563 = .ok (.iadd, 1) := by decide +kernel
theorem dL_law_564 : decode cL_law 564 = .ok (.iaload, 1) := by decide +kernel
theorem dL_law_565 : decode cL_law 565 = .ok (.aload_n 0, 1) := by decide +kernel
theorem dL_law_566 : decode cL_law 566 = .ok (.iload_n 3, 1) := by decide +kernel
theorem dL_law_567 : decode cL_law 567 = .ok (.iconst 3, 1) := by decide +kernel
theorem dL_law_568 : decode cL_law 568 = .ok (.iadd, 1) := by decide +kernel
theorem dL_law_569 : decode cL_law 569 = .ok (.iaload, 1) := by decide +kernel
theorem dL_law_570 : decode cL_law 570 = .ok (.invokevirtual 79, 3) := by decide +kernel
theorem dL_law_573 : decode cL_law 573 = .ok (.pop, 1) := by decide +kernel
theorem dL_law_574 : decode cL_law 574 = .ok (.goto 131, 3) := by decide +kernel
theorem dL_law_577 : decode cL_law 577 = .ok (.aload_n 1, 1) := by decide +kernel
theorem dL_law_578 : decode cL_law 578 = .ok (.aload_n 0, 1) := by decide +kernel
theorem dL_law_579 : decode cL_law 579 = .ok (.iload_n 3, 1) := by decide +kernel
theorem dL_law_580 : decode cL_law 580 = .ok (.iconst 1, 1) := by decide +kernel
theorem dL_law_581 : decode cL_law 581 = .ok (.iadd, 1) := by decide +kernel
theorem dL_law_582 : decode cL_law 582 = .ok (.iaload, 1) := by decide +kernel
theorem dL_law_583 : decode cL_law 583 = .ok (.invokevirtual 80, 3) := by decide +kernel
theorem dL_law_586 : decode cL_law 586 = .ok (.pop, 1) := by decide +kernel
theorem dL_law_587 : decode cL_law 587 = .ok (.aload_n 2, 1) := by decide +kernel
theorem dL_law_588 : decode cL_law 588 = .ok (.aload_n 0, 1) := by decide +kernel
theorem dL_law_589 : decode cL_law 589 = .ok (.iload_n 3, 1) := by decide +kernel
theorem dL_law_590 : decode cL_law 590 = .ok (.iconst 1, 1) := by decide +kernel
theorem dL_law_591 : decode cL_law 591 = .ok (.iadd, 1) := by decide +kernel
theorem dL_law_592 : decode cL_law 592 = .ok (.iaload, 1) := by decide +kernel
theorem dL_law_593 : decode cL_law 593 = .ok (.invokevirtual 83, 3) := by decide +kernel
theorem dL_law_596 : decode cL_law 596 = .ok (.pop, 1) := by decide +kernel
theorem dL_law_597 : decode cL_law 597 = .ok (.goto 108, 3) := by decide +kernel
theorem dL_law_600 : decode cL_law 600 = .ok (.aload_n 1, 1) := by decide +kernel
theorem dL_law_601 : decode cL_law 601 = .ok (.invokevirtual 84, 3) := by decide +kernel
theorem dL_law_604 : decode cL_law 604 = .ok (.pop, 1) := by decide +kernel
theorem dL_law_605 : decode cL_law 605 = .ok (.aload_n 2, 1) := by decide +kernel
theorem dL_law_606 : decode cL_law 606 = .ok (.invokevirtual 87, 3) := by decide +kernel
theorem dL_law_609 : decode cL_law 609 = .ok (.pop, 1) := by decide +kernel
theorem dL_law_610 : decode cL_law 610 = .ok (.goto 95, 3) := by decide +kernel
theorem dL_law_613 : decode cL_law 613 = .ok (.aload_n 1, 1) := by decide +kernel
theorem dL_law_614 : decode cL_law 614 = .ok (.aload_n 0, 1) := by decide +kernel
theorem dL_law_615 : decode cL_law 615 = .ok (.iload_n 3, 1) := by decide +kernel
theorem dL_law_616 : decode cL_law 616 = .ok (.iconst 1, 1) := by decide +kernel
theorem dL_law_617 : decode cL_law 617 = .ok (.iadd, 1) := by decide +kernel
theorem dL_law_618 : decode cL_law 618 = .ok (.iaload, 1) := by decide +kernel
theorem dL_law_619 : decode cL_law 619 = .ok (.invokevirtual 88, 3) := by decide +kernel
theorem dL_law_622 : decode cL_law 622 = .ok (.pop, 1) := by decide +kernel
theorem dL_law_623 : decode cL_law 623 = .ok (.aload_n 2, 1) := by decide +kernel
theorem dL_law_624 : decode cL_law 624 = .ok (.aload_n 0, 1) := by decide +kernel
theorem dL_law_625 : decode cL_law 625 = .ok (.iload_n 3, 1) := by decide +kernel
theorem dL_law_626 : decode cL_law 626 = .ok (.iconst 1, 1) := by decide +kernel
theorem dL_law_627 : decode cL_law 627 = .ok (.iadd, 1) := by decide +kernel
theorem dL_law_628 : decode cL_law 628 = .ok (.iaload, 1) := by decide +kernel
theorem dL_law_629 : decode cL_law 629 = .ok (.invokevirtual 91, 3) := by decide +kernel
theorem dL_law_632 : decode cL_law 632 = .ok (.pop, 1) := by decide +kernel
theorem dL_law_633 : decode cL_law 633 = .ok (.goto 72, 3) := by decide +kernel
theorem dL_law_636 : decode cL_law 636 = .ok (.aload_n 1, 1) := by decide +kernel
theorem dL_law_637 : decode cL_law 637 = .ok (.aload_n 0, 1) := by decide +kernel
theorem dL_law_638 : decode cL_law 638 = .ok (.iload_n 3, 1) := by decide +kernel
theorem dL_law_639 : decode cL_law 639 = .ok (.iconst 1, 1) := by decide +kernel
theorem dL_law_640 : decode cL_law 640 = .ok (.iadd, 1) := by decide +kernel
theorem dL_law_641 : decode cL_law 641 = .ok (.iaload, 1) := by decide +kernel
theorem dL_law_642 : decode cL_law 642 = .ok (.invokevirtual 92, 3) := by decide +kernel
theorem dL_law_645 : decode cL_law 645 = .ok (.aload_n 2, 1) := by decide +kernel
theorem dL_law_646 : decode cL_law 646 = .ok (.aload_n 0, 1) := by decide +kernel
theorem dL_law_647 : decode cL_law 647 = .ok (.iload_n 3, 1) := by decide +kernel
theorem dL_law_648 : decode cL_law 648 = .ok (.iconst 1, 1) := by decide +kernel
theorem dL_law_649 : decode cL_law 649 = .ok (.iadd, 1) := by decide +kernel
theorem dL_law_650 : decode cL_law 650 = .ok (.iaload, 1) := by decide +kernel
theorem dL_law_651 : decode cL_law 651 = .ok (.invokevirtual 95, 3) := by decide +kernel
theorem dL_law_654 : decode cL_law 654 = .ok (.if_icmp .eq 51, 3) := by decide +kernel
theorem dL_law_659 : decode cL_law 659 = .ok (.aload_n 1, 1) := by decide +kernel
theorem dL_law_660 : decode cL_law 660 = .ok (.aload_n 0, 1) := by decide +kernel
theorem dL_law_661 : decode cL_law 661 = .ok (.iload_n 3, 1) := by decide +kernel
theorem dL_law_662 : decode cL_law 662 = .ok (.iconst 1, 1) := by decide +kernel
theorem dL_law_663 : decode cL_law 663 = .ok (.iadd, 1) := by decide +kernel
theorem dL_law_664 : decode cL_law 664 = .ok (.iaload, 1) := by decide +kernel
theorem dL_law_665 : decode cL_law 665 = .ok (.invokevirtual 96, 3) := by decide +kernel
theorem dL_law_668 : decode cL_law 668 = .ok (.pop, 1) := by decide +kernel
theorem dL_law_669 : decode cL_law 669 = .ok (.aload_n 2, 1) := by decide +kernel
theorem dL_law_670 : decode cL_law 670 = .ok (.aload_n 0, 1) := by decide +kernel
theorem dL_law_671 : decode cL_law 671 = .ok (.iload_n 3, 1) := by decide +kernel
theorem dL_law_672 : decode cL_law 672 = .ok (.iconst 1, 1) := by decide +kernel
theorem dL_law_673 : decode cL_law 673 = .ok (.iadd, 1) := by decide +kernel
theorem dL_law_674 : decode cL_law 674 = .ok (.iaload, 1) := by decide +kernel
theorem dL_law_675 : decode cL_law 675 = .ok (.invokevirtual 99, 3) := by decide +kernel
theorem dL_law_678 : decode cL_law 678 = .ok (.pop, 1) := by decide +kernel
theorem dL_law_679 : decode cL_law 679 = .ok (.goto 26, 3) := by decide +kernel
theorem dL_law_682 : decode cL_law 682 = .ok (.aload_n 1, 1) := by decide +kernel
theorem dL_law_683 : decode cL_law 683 = .ok (.aload_n 0, 1) := by decide +kernel
theorem dL_law_684 : decode cL_law 684 = .ok (.iload_n 3, 1) := by decide +kernel
theorem dL_law_685 : decode cL_law 685 = .ok (.iconst 1, 1) := by decide +kernel
theorem dL_law_686 : decode cL_law 686 = .ok (.iadd, 1) := by decide +kernel
theorem dL_law_687 : decode cL_law 687 = .ok (.iaload, 1) := by decide +kernel
theorem dL_law_688 : decode cL_law 688 = .ok (.invokevirtual 100, 3) := by decide +kernel
theorem dL_law_691 : decode cL_law 691 = .ok (.pop, 1) := by decide +kernel
theorem dL_law_692 : decode cL_law 692 = .ok (.aload_n 2, 1) := by decide +kernel
theorem dL_law_693 : decode cL_law 693 = .ok (.aload_n 0, 1) := by decide +kernel
theorem dL_law_694 : decode cL_law 694 = .ok (.iload_n 3, 1) := by decide +kernel
theorem dL_law_695 : decode cL_law 695 = .ok (.iconst 1, 1) := by decide +kernel
theorem dL_law_696 : decode cL_law 696 = .ok (.iadd, 1) := by decide +kernel
theorem dL_law_697 : decode cL_law 697 = .ok (.iaload, 1) := by decide +kernel
theorem dL_law_698 : decode cL_law 698 = .ok (.invokevirtual 103, 3) := by decide +kernel
theorem dL_law_701 : decode cL_law 701 = .ok (.pop, 1) := by decide +kernel
theorem dL_law_702 : decode cL_law 702 = .ok (.goto 3, 3) := by decide +kernel
theorem dL_law_705 : decode cL_law 705 = .ok (.iinc 3 6, 3) := by decide +kernel
theorem dL_law_708 : decode cL_law 708 = .ok (.goto (-690), 3) := by decide +kernel
theorem dL_law_711 : decode cL_law 711 = .ok (.iconst 1, 1) := by decide +kernel
theorem dL_law_712 : decode cL_law 712 = .ok (.ireturn, 1) := by decide +kernel
set_option maxRecDepth 20000 in
theorem gP_law__x_X8_feed : GoodIn lw_tbl (wsV RL 13 RX8 yX8_feed wsP_x_X8_feed) := gw_inP (pre := [.methodLink RL 13 yX8_feed, .instanceMethod yX8_feed, .selects RX8 yX8_feed yX8_feed, .initialized RX8]) (gx_posT [(2, 24), (2, 25), (2, 26), (1, 1)] rfl) (by decide +kernel) iw_x_X8_feed (by decide +kernel)
set_option maxRecDepth 20000 in
theorem gP_law__c_X8_back : GoodIn lw_tbl (wsV RL 18 RX8 yX8_back wsP_c_X8_back) := gw_inP (pre := [.methodLink RL 18 yX8_back, .instanceMethod yX8_back, .selects RX8 yX8_back yX8_back, .initialized RX8]) (gx_posT [(2, 32), (2, 33), (2, 34), (1, 1)] rfl) (by decide +kernel) iw_c_X8_back (by decide +kernel)
set_option maxRecDepth 20000 in
theorem gP_law__x_read8 : GoodIn lw_tbl (wsV RL 23 RX8 yX8_read wsP_x_read8) := gw_inP (pre := [.methodLink RL 23 yX8_read, .instanceMethod yX8_read, .selects RX8 yX8_read yX8_read, .initialized RX8]) (gx_posT [(2, 36), (2, 37), (2, 38), (1, 1)] rfl) (by decide +kernel) iw_x_read8 (by decide +kernel)
set_option maxRecDepth 20000 in
theorem gP_law__x_place8 : GoodIn lw_tbl (wsV RL 28 RX8 yX8_place wsP_x_place8) := gw_inP (pre := [.methodLink RL 28 yX8_place, .instanceMethod yX8_place, .selects RX8 yX8_place yX8_place, .initialized RX8]) (gx_posT [(2, 209), (2, 210), (2, 211), (1, 1)] rfl) (by decide +kernel) iw_x_place8 (by decide +kernel)
set_option maxRecDepth 20000 in
theorem gP_law__x_ins8 : GoodIn lw_tbl (wsV RL 32 RX8 yX8_ins wsP_x_ins8) := gw_inP (pre := [.methodLink RL 32 yX8_ins, .instanceMethod yX8_ins, .selects RX8 yX8_ins yX8_ins, .initialized RX8]) (gx_posT [(2, 213), (2, 214), (2, 215), (1, 1)] rfl) (by decide +kernel) iw_x_ins8 (by decide +kernel)
set_option maxRecDepth 20000 in
theorem gP_law__y_begin8 : GoodIn lw_tbl (wsV RL 37 RX8 yX8_begin wsP_y_begin8) := gw_inP (pre := [.methodLink RL 37 yX8_begin, .instanceMethod yX8_begin, .selects RX8 yX8_begin yX8_begin, .initialized RX8]) (gx_posT [(2, 222), (2, 223), (2, 224), (1, 1)] rfl) (by decide +kernel) iw_y_begin8 (by decide +kernel)
set_option maxRecDepth 20000 in
theorem gP_law__x_step8 : GoodIn lw_tbl (wsV RL 42 RX8 yX8_step wsP_x_step8) := gw_inP (pre := [.methodLink RL 42 yX8_step, .instanceMethod yX8_step, .selects RX8 yX8_step yX8_step, .initialized RX8]) (gx_posT [(3, 1), (3, 2), (3, 3), (1, 1)] rfl) (by decide +kernel) iw_x_step8 (by decide +kernel)
set_option maxRecDepth 20000 in
theorem gP_law__x_undo8 : GoodIn lw_tbl (wsV RL 46 RX8 yX8_undo wsP_x_undo8) := gw_inP (pre := [.methodLink RL 46 yX8_undo, .instanceMethod yX8_undo, .selects RX8 yX8_undo yX8_undo, .initialized RX8]) (gx_posT [(3, 67), (3, 68), (3, 69), (1, 1)] rfl) (by decide +kernel) iw_x_undo8 (by decide +kernel)
set_option maxRecDepth 20000 in
theorem gP_law__x_register8 : GoodIn lw_tbl (wsV RL 51 RX8 yX8_register wsP_x_register8) := gw_inP (pre := [.methodLink RL 51 yX8_register, .instanceMethod yX8_register, .selects RX8 yX8_register yX8_register, .initialized RX8]) (gx_posT [(3, 75), (3, 76), (3, 77), (1, 1)] rfl) (by decide +kernel) iw_x_register8 (by decide +kernel)
set_option maxRecDepth 20000 in
theorem gP_law__x_memory8 : GoodIn lw_tbl (wsV RL 56 RX8 yX8_memory wsP_x_memory8) := gw_inP (pre := [.methodLink RL 56 yX8_memory, .instanceMethod yX8_memory, .selects RX8 yX8_memory yX8_memory, .initialized RX8]) (gx_posT [(3, 79), (3, 80), (3, 81), (1, 1)] rfl) (by decide +kernel) iw_x_memory8 (by decide +kernel)
set_option maxRecDepth 20000 in
theorem gP_law__x_next8 : GoodIn lw_tbl (wsV RL 60 RX8 yX8_next wsP_x_next8) := gw_inP (pre := [.methodLink RL 60 yX8_next, .instanceMethod yX8_next, .selects RX8 yX8_next yX8_next, .initialized RX8]) (gx_posT [(3, 83), (3, 84), (3, 85), (1, 1)] rfl) (by decide +kernel) iw_x_next8 (by decide +kernel)
set_option maxRecDepth 20000 in
theorem gP_law__x_store8z : GoodIn lw_tbl (wsV RL 64 RX8 yX8_store wsP_x_store8z) := gw_inP (pre := [.methodLink RL 64 yX8_store, .instanceMethod yX8_store, .selects RX8 yX8_store yX8_store, .initialized RX8]) (gx_posT [(3, 88), (3, 89), (3, 90), (1, 1)] rfl) (by decide +kernel) iw_x_store8z (by decide +kernel)
set_option maxRecDepth 20000 in
theorem gP_law__x_store8 : GoodIn lw_tbl (wsV RL 64 RX8 yX8_store wsP_x_store8) := gw_inP (pre := [.methodLink RL 64 yX8_store, .instanceMethod yX8_store, .selects RX8 yX8_store yX8_store, .initialized RX8]) (gx_posT [(3, 88), (3, 89), (3, 90), (1, 1)] rfl) (by decide +kernel) iw_x_store8 (by decide +kernel)
set_option maxRecDepth 20000 in
theorem gP_law__x_outcomesN : GoodIn lw_tbl (wsV RL 68 RX8 yX8_outcomes wsP_x_outcomesN) := gw_inP (pre := [.methodLink RL 68 yX8_outcomes, .instanceMethod yX8_outcomes, .selects RX8 yX8_outcomes yX8_outcomes, .initialized RX8]) (gx_posT [(3, 95), (3, 96), (3, 97), (1, 1)] rfl) (by decide +kernel) iw_x_outcomesN (by decide +kernel)
set_option maxRecDepth 20000 in
theorem gP_law__x_outcomesE : GoodIn lw_tbl (wsV RL 68 RX8 yX8_outcomes wsP_x_outcomesE) := gw_inP (pre := [.methodLink RL 68 yX8_outcomes, .instanceMethod yX8_outcomes, .selects RX8 yX8_outcomes yX8_outcomes, .initialized RX8]) (gx_posT [(3, 95), (3, 96), (3, 97), (1, 1)] rfl) (by decide +kernel) iw_x_outcomesE (by decide +kernel)
set_option maxRecDepth 20000 in
theorem gP_law__x_outcomeN : GoodIn lw_tbl (wsV RL 72 RX8 yX8_outcome wsP_x_outcomeN) := gw_inP (pre := [.methodLink RL 72 yX8_outcome, .instanceMethod yX8_outcome, .selects RX8 yX8_outcome yX8_outcome, .initialized RX8]) (gx_posT [(3, 237), (3, 238), (3, 239), (1, 1)] rfl) (by decide +kernel) iw_x_outcomeN (by decide +kernel)
set_option maxRecDepth 20000 in
theorem gP_law__x_outcomeE : GoodIn lw_tbl (wsV RL 72 RX8 yX8_outcome wsP_x_outcomeE) := gw_inP (pre := [.methodLink RL 72 yX8_outcome, .instanceMethod yX8_outcome, .selects RX8 yX8_outcome yX8_outcome, .initialized RX8]) (gx_posT [(3, 237), (3, 238), (3, 239), (1, 1)] rfl) (by decide +kernel) iw_x_outcomeE (by decide +kernel)
set_option maxRecDepth 20000 in
theorem gP_law__x_scheduleN : GoodIn lw_tbl (wsV RL 76 RX8 yX8_schedule wsP_x_scheduleN) := gw_inP (pre := [.methodLink RL 76 yX8_schedule, .instanceMethod yX8_schedule, .selects RX8 yX8_schedule yX8_schedule, .initialized RX8]) (gx_posT [(4, 9), (4, 10), (4, 11), (1, 1)] rfl) (by decide +kernel) iw_x_scheduleN (by decide +kernel)
set_option maxRecDepth 20000 in
theorem gP_law__x_scheduleE : GoodIn lw_tbl (wsV RL 76 RX8 yX8_schedule wsP_x_scheduleE) := gw_inP (pre := [.methodLink RL 76 yX8_schedule, .instanceMethod yX8_schedule, .selects RX8 yX8_schedule yX8_schedule, .initialized RX8]) (gx_posT [(4, 9), (4, 10), (4, 11), (1, 1)] rfl) (by decide +kernel) iw_x_scheduleE (by decide +kernel)
set_option maxRecDepth 20000 in
theorem gP_law__x_moreN : GoodIn lw_tbl (wsV RL 80 RX8 yX8_more wsP_x_moreN) := gw_inP (pre := [.methodLink RL 80 yX8_more, .instanceMethod yX8_more, .selects RX8 yX8_more yX8_more, .initialized RX8]) (gx_posT [(4, 17), (4, 18), (4, 19), (1, 1)] rfl) (by decide +kernel) iw_x_moreN (by decide +kernel)
set_option maxRecDepth 20000 in
theorem gP_law__x_moreE : GoodIn lw_tbl (wsV RL 80 RX8 yX8_more wsP_x_moreE) := gw_inP (pre := [.methodLink RL 80 yX8_more, .instanceMethod yX8_more, .selects RX8 yX8_more yX8_more, .initialized RX8]) (gx_posT [(4, 17), (4, 18), (4, 19), (1, 1)] rfl) (by decide +kernel) iw_x_moreE (by decide +kernel)
set_option maxRecDepth 20000 in
theorem gP_law__c_raceN : GoodIn lw_tbl (wsV RL 84 RX8 yX8_race wsP_c_raceN) := gw_inP (pre := [.methodLink RL 84 yX8_race, .instanceMethod yX8_race, .selects RX8 yX8_race yX8_race, .initialized RX8]) (gx_posT [(4, 33), (4, 34), (4, 35), (1, 1)] rfl) (by decide +kernel) iw_c_raceN (by decide +kernel)
set_option maxRecDepth 20000 in
theorem gP_law__c_raceE : GoodIn lw_tbl (wsV RL 84 RX8 yX8_race wsP_c_raceE) := gw_inP (pre := [.methodLink RL 84 yX8_race, .instanceMethod yX8_race, .selects RX8 yX8_race yX8_race, .initialized RX8]) (gx_posT [(4, 33), (4, 34), (4, 35), (1, 1)] rfl) (by decide +kernel) iw_c_raceE (by decide +kernel)
set_option maxRecDepth 20000 in
theorem gP_law__c_racerN : GoodIn lw_tbl (wsV RL 88 RX8 yX8_racer wsP_c_racerN) := gw_inP (pre := [.methodLink RL 88 yX8_racer, .instanceMethod yX8_racer, .selects RX8 yX8_racer yX8_racer, .initialized RX8]) (gx_posT [(4, 66), (4, 67), (4, 68), (1, 1)] rfl) (by decide +kernel) iw_c_racerN (by decide +kernel)
set_option maxRecDepth 20000 in
theorem gP_law__c_racerE : GoodIn lw_tbl (wsV RL 88 RX8 yX8_racer wsP_c_racerE) := gw_inP (pre := [.methodLink RL 88 yX8_racer, .instanceMethod yX8_racer, .selects RX8 yX8_racer yX8_racer, .initialized RX8]) (gx_posT [(4, 66), (4, 67), (4, 68), (1, 1)] rfl) (by decide +kernel) iw_c_racerE (by decide +kernel)
set_option maxRecDepth 20000 in
theorem gP_law__y_cureN : GoodIn lw_tbl (wsV RL 92 RX8 yX8_cure wsP_y_cureN) := gw_inP (pre := [.methodLink RL 92 yX8_cure, .instanceMethod yX8_cure, .selects RX8 yX8_cure yX8_cure, .initialized RX8]) (gx_posT [(4, 74), (4, 75), (4, 76), (1, 1)] rfl) (by decide +kernel) iw_y_cureN (by decide +kernel)
set_option maxRecDepth 20000 in
theorem gP_law__y_cureE : GoodIn lw_tbl (wsV RL 92 RX8 yX8_cure wsP_y_cureE) := gw_inP (pre := [.methodLink RL 92 yX8_cure, .instanceMethod yX8_cure, .selects RX8 yX8_cure yX8_cure, .initialized RX8]) (gx_posT [(4, 74), (4, 75), (4, 76), (1, 1)] rfl) (by decide +kernel) iw_y_cureE (by decide +kernel)
set_option maxRecDepth 20000 in
theorem gP_law__c_cured8 : GoodIn lw_tbl (wsV RL 96 RX8 yX8_cured wsP_c_cured8) := gw_inP (pre := [.methodLink RL 96 yX8_cured, .instanceMethod yX8_cured, .selects RX8 yX8_cured yX8_cured, .initialized RX8]) (gx_posT [(4, 122), (4, 123), (4, 124), (1, 1)] rfl) (by decide +kernel) iw_c_cured8 (by decide +kernel)
set_option maxRecDepth 20000 in
theorem gP_law__x_countN : GoodIn lw_tbl (wsV RL 100 RX8 yX8_count wsP_x_countN) := gw_inP (pre := [.methodLink RL 100 yX8_count, .instanceMethod yX8_count, .selects RX8 yX8_count yX8_count, .initialized RX8]) (gx_posT [(4, 130), (4, 131), (4, 132), (1, 1)] rfl) (by decide +kernel) iw_x_countN (by decide +kernel)
set_option maxRecDepth 20000 in
theorem gP_law__x_countE : GoodIn lw_tbl (wsV RL 100 RX8 yX8_count wsP_x_countE) := gw_inP (pre := [.methodLink RL 100 yX8_count, .instanceMethod yX8_count, .selects RX8 yX8_count yX8_count, .initialized RX8]) (gx_posT [(4, 130), (4, 131), (4, 132), (1, 1)] rfl) (by decide +kernel) iw_x_countE (by decide +kernel)
set_option maxRecDepth 20000 in
theorem gP_law__x_X9_feed : GoodIn lw_tbl (wsV RL 17 RX9 yX9_feed wsP_x_X9_feed) := gw_inP (pre := [.methodLink RL 17 yX9_feed, .instanceMethod yX9_feed, .selects RX9 yX9_feed yX9_feed, .initialized RX9]) (gx_posT [(5, 77), (5, 78), (5, 79), (1, 9)] rfl) (by decide +kernel) iw_x_X9_feed (by decide +kernel)
set_option maxRecDepth 20000 in
theorem gP_law__c_X9_back : GoodIn lw_tbl (wsV RL 22 RX9 yX9_back wsP_c_X9_back) := gw_inP (pre := [.methodLink RL 22 yX9_back, .instanceMethod yX9_back, .selects RX9 yX9_back yX9_back, .initialized RX9]) (gx_posT [(5, 85), (5, 86), (5, 87), (1, 9)] rfl) (by decide +kernel) iw_c_X9_back (by decide +kernel)
set_option maxRecDepth 20000 in
theorem gP_law__y_read9 : GoodIn lw_tbl (wsV RL 27 RX9 yX9_read wsP_y_read9) := gw_inP (pre := [.methodLink RL 27 yX9_read, .instanceMethod yX9_read, .selects RX9 yX9_read yX9_read, .initialized RX9]) (gx_posT [(5, 89), (5, 90), (5, 91), (1, 9)] rfl) (by decide +kernel) iw_y_read9 (by decide +kernel)
set_option maxRecDepth 20000 in
theorem gP_law__x_place9 : GoodIn lw_tbl (wsV RL 31 RX9 yX9_place wsP_x_place9) := gw_inP (pre := [.methodLink RL 31 yX9_place, .instanceMethod yX9_place, .selects RX9 yX9_place yX9_place, .initialized RX9]) (gx_posT [(5, 196), (5, 197), (5, 198), (1, 9)] rfl) (by decide +kernel) iw_x_place9 (by decide +kernel)
set_option maxRecDepth 20000 in
theorem gP_law__x_ins9 : GoodIn lw_tbl (wsV RL 36 RX9 yX9_ins wsP_x_ins9) := gw_inP (pre := [.methodLink RL 36 yX9_ins, .instanceMethod yX9_ins, .selects RX9 yX9_ins yX9_ins, .initialized RX9]) (gx_posT [(5, 200), (5, 201), (5, 202), (1, 9)] rfl) (by decide +kernel) iw_x_ins9 (by decide +kernel)
set_option maxRecDepth 20000 in
theorem gP_law__y_begin9 : GoodIn lw_tbl (wsV RL 41 RX9 yX9_begin wsP_y_begin9) := gw_inP (pre := [.methodLink RL 41 yX9_begin, .instanceMethod yX9_begin, .selects RX9 yX9_begin yX9_begin, .initialized RX9]) (gx_posT [(5, 204), (5, 205), (5, 206), (1, 9)] rfl) (by decide +kernel) iw_y_begin9 (by decide +kernel)
set_option maxRecDepth 20000 in
theorem gP_law__c_step9n : GoodIn lw_tbl (wsV RL 45 RX9 yX9_step wsP_c_step9n) := gw_inP (pre := [.methodLink RL 45 yX9_step, .instanceMethod yX9_step, .selects RX9 yX9_step yX9_step, .initialized RX9]) (gx_posT [(5, 216), (5, 217), (5, 218), (1, 9)] rfl) (by decide +kernel) iw_c_step9n (by decide +kernel)
set_option maxRecDepth 20000 in
theorem gP_law__x_step9 : GoodIn lw_tbl (wsV RL 45 RX9 yX9_step wsP_x_step9) := gw_inP (pre := [.methodLink RL 45 yX9_step, .instanceMethod yX9_step, .selects RX9 yX9_step yX9_step, .initialized RX9]) (gx_posT [(5, 216), (5, 217), (5, 218), (1, 9)] rfl) (by decide +kernel) iw_x_step9 (by decide +kernel)
set_option maxRecDepth 20000 in
theorem gP_law__c_undo9n : GoodIn lw_tbl (wsV RL 50 RX9 yX9_undo wsP_c_undo9n) := gw_inP (pre := [.methodLink RL 50 yX9_undo, .instanceMethod yX9_undo, .selects RX9 yX9_undo yX9_undo, .initialized RX9]) (gx_posT [(6, 15), (6, 16), (6, 17), (1, 9)] rfl) (by decide +kernel) iw_c_undo9n (by decide +kernel)
set_option maxRecDepth 20000 in
theorem gP_law__x_undo9 : GoodIn lw_tbl (wsV RL 50 RX9 yX9_undo wsP_x_undo9) := gw_inP (pre := [.methodLink RL 50 yX9_undo, .instanceMethod yX9_undo, .selects RX9 yX9_undo yX9_undo, .initialized RX9]) (gx_posT [(6, 15), (6, 16), (6, 17), (1, 9)] rfl) (by decide +kernel) iw_x_undo9 (by decide +kernel)
set_option maxRecDepth 20000 in
theorem gP_law__x_registerQ9 : GoodIn lw_tbl (wsV RL 55 RX9 yX9_register_ wsP_x_registerQ9) := gw_inP (pre := [.methodLink RL 55 yX9_register_, .instanceMethod yX9_register_, .selects RX9 yX9_register_ yX9_register_, .initialized RX9]) (gx_posT [(6, 19), (6, 20), (6, 21), (1, 9)] rfl) (by decide +kernel) iw_x_registerQ9 (by decide +kernel)
set_option maxRecDepth 20000 in
theorem gP_law__x_memory9 : GoodIn lw_tbl (wsV RL 59 RX9 yX9_memory wsP_x_memory9) := gw_inP (pre := [.methodLink RL 59 yX9_memory, .instanceMethod yX9_memory, .selects RX9 yX9_memory yX9_memory, .initialized RX9]) (gx_posT [(6, 27), (6, 28), (6, 29), (1, 9)] rfl) (by decide +kernel) iw_x_memory9 (by decide +kernel)
set_option maxRecDepth 20000 in
theorem gP_law__x_next9 : GoodIn lw_tbl (wsV RL 63 RX9 yX9_next wsP_x_next9) := gw_inP (pre := [.methodLink RL 63 yX9_next, .instanceMethod yX9_next, .selects RX9 yX9_next yX9_next, .initialized RX9]) (gx_posT [(6, 31), (6, 32), (6, 33), (1, 9)] rfl) (by decide +kernel) iw_x_next9 (by decide +kernel)
set_option maxRecDepth 20000 in
theorem gP_law__x_store9 : GoodIn lw_tbl (wsV RL 67 RX9 yX9_store wsP_x_store9) := gw_inP (pre := [.methodLink RL 67 yX9_store, .instanceMethod yX9_store, .selects RX9 yX9_store yX9_store, .initialized RX9]) (gx_posT [(6, 35), (6, 36), (6, 37), (1, 9)] rfl) (by decide +kernel) iw_x_store9 (by decide +kernel)
set_option maxRecDepth 20000 in
theorem gP_law__x_outcomes9 : GoodIn lw_tbl (wsV RL 71 RX9 yX9_outcomes wsP_x_outcomes9) := gw_inP (pre := [.methodLink RL 71 yX9_outcomes, .instanceMethod yX9_outcomes, .selects RX9 yX9_outcomes yX9_outcomes, .initialized RX9]) (gx_posT [(6, 39), (6, 40), (6, 41), (1, 9)] rfl) (by decide +kernel) iw_x_outcomes9 (by decide +kernel)
set_option maxRecDepth 20000 in
theorem gP_law__x_outcome9 : GoodIn lw_tbl (wsV RL 75 RX9 yX9_outcome wsP_x_outcome9) := gw_inP (pre := [.methodLink RL 75 yX9_outcome, .instanceMethod yX9_outcome, .selects RX9 yX9_outcome yX9_outcome, .initialized RX9]) (gx_posT [(6, 88), (6, 89), (6, 90), (1, 9)] rfl) (by decide +kernel) iw_x_outcome9 (by decide +kernel)
set_option maxRecDepth 20000 in
theorem gP_law__x_schedule9 : GoodIn lw_tbl (wsV RL 79 RX9 yX9_schedule wsP_x_schedule9) := gw_inP (pre := [.methodLink RL 79 yX9_schedule, .instanceMethod yX9_schedule, .selects RX9 yX9_schedule yX9_schedule, .initialized RX9]) (gx_posT [(6, 96), (6, 97), (6, 98), (1, 9)] rfl) (by decide +kernel) iw_x_schedule9 (by decide +kernel)
set_option maxRecDepth 20000 in
theorem gP_law__x_more9 : GoodIn lw_tbl (wsV RL 83 RX9 yX9_more wsP_x_more9) := gw_inP (pre := [.methodLink RL 83 yX9_more, .instanceMethod yX9_more, .selects RX9 yX9_more yX9_more, .initialized RX9]) (gx_posT [(6, 104), (6, 105), (6, 106), (1, 9)] rfl) (by decide +kernel) iw_x_more9 (by decide +kernel)
set_option maxRecDepth 20000 in
theorem gP_law__x_race9 : GoodIn lw_tbl (wsV RL 87 RX9 yX9_race wsP_x_race9) := gw_inP (pre := [.methodLink RL 87 yX9_race, .instanceMethod yX9_race, .selects RX9 yX9_race yX9_race, .initialized RX9]) (gx_posT [(6, 112), (6, 113), (6, 114), (1, 9)] rfl) (by decide +kernel) iw_x_race9 (by decide +kernel)
set_option maxRecDepth 20000 in
theorem gP_law__x_racer9 : GoodIn lw_tbl (wsV RL 91 RX9 yX9_racer wsP_x_racer9) := gw_inP (pre := [.methodLink RL 91 yX9_racer, .instanceMethod yX9_racer, .selects RX9 yX9_racer yX9_racer, .initialized RX9]) (gx_posT [(6, 124), (6, 125), (6, 126), (1, 9)] rfl) (by decide +kernel) iw_x_racer9 (by decide +kernel)
set_option maxRecDepth 20000 in
theorem gP_law__z_cure9 : GoodIn lw_tbl (wsV RL 95 RX9 yX9_cure wsP_z_cure9) := gw_inP (pre := [.methodLink RL 95 yX9_cure, .instanceMethod yX9_cure, .selects RX9 yX9_cure yX9_cure, .initialized RX9]) (gx_posT [(6, 129), (6, 130), (6, 131), (1, 9)] rfl) (by decide +kernel) iw_z_cure9 (by decide +kernel)
set_option maxRecDepth 20000 in
theorem gP_law__c_cured9 : GoodIn lw_tbl (wsV RL 99 RX9 yX9_cured wsP_c_cured9) := gw_inP (pre := [.methodLink RL 99 yX9_cured, .instanceMethod yX9_cured, .selects RX9 yX9_cured yX9_cured, .initialized RX9]) (gx_posT [(6, 152), (6, 153), (6, 154), (1, 9)] rfl) (by decide +kernel) iw_c_cured9 (by decide +kernel)
set_option maxRecDepth 20000 in
theorem gP_law__x_count9 : GoodIn lw_tbl (wsV RL 103 RX9 yX9_count wsP_x_count9) := gw_inP (pre := [.methodLink RL 103 yX9_count, .instanceMethod yX9_count, .selects RX9 yX9_count yX9_count, .initialized RX9]) (gx_posT [(6, 156), (6, 157), (6, 158), (1, 9)] rfl) (by decide +kernel) iw_x_count9 (by decide +kernel)
theorem gMh_u {kd : Nat → Int32} {Mn : Nat → Nat} {mo z : Int32} {dn dn9 : Nat} {mf mf9 hh : Nat → Int32} (h : ¬ mo < 0 ∧ gMh kd Mn mo dn mf hh) (hz : (z = 0 ∧ dn9 = dn ∧ mf9 = mf) ∨ (z = 1 ∧ 0 < dn ∧ dn9 = dn - 1 ∧ ∀ j, j < 58 → mf9 j = hh ((58 * (dn - 1)) + j))) : mo = (-1) ∨ (¬ mo < 0 ∧ gMh kd Mn mo dn9 mf9 hh) := by
  refine Or.inr ⟨h.1, ?_⟩
  obtain ⟨g1, g2⟩ := h.2.resolve_left h.1
  rcases hz with ⟨_, rfl, rfl⟩ | ⟨_, h1, rfl, h2⟩
  · exact Or.inr ⟨g1, g2⟩
  · exact Or.inr ⟨gS9_ext (g2 (dn - 1) (by omega)) h2, fun j hj => g2 j (by omega)⟩
theorem gMo_b {kd : Nat → Int32} {Mn : Nat → Nat} {mo mo9 z ip : Int32} {dn dn9 : Nat} {mf mf9 hh : Nat → Int32} (h : mo = (-1) ∨ (¬ mo < 0 ∧ gMh kd Mn mo dn mf hh)) (hz : (z = 0 ∧ mo9 = mo ∧ dn9 = dn ∧ mf9 = mf) ∨ (z = 1 ∧ ¬ ip = 0 ∧ (mo9 = 0 ∨ mo9 = 1) ∧ dn9 = 0 ∧ ∀ j, j < 58 → (j < 12 ∨ 16 ≤ j) → mf9 j = 0)) : mo9 = (-1) ∨ (¬ mo9 < 0 ∧ gMh kd Mn mo9 dn9 mf9 hh) := by
  rcases hz with ⟨_, rfl, rfl, rfl⟩ | ⟨_, _, h1, rfl, h2⟩
  · exact h
  · refine Or.inr ⟨?_, Or.inr ⟨gS9_first h2, fun j hj => absurd hj (Nat.not_lt_zero j)⟩⟩
    rcases h1 with e | e
    · subst e; decide
    · subst e; decide
theorem gMo_sm {kd kd' : Nat → Int32} {C C' Mn Mn' : Nat → Nat} {mo : Int32} {dn : Nat} {mf hh : Nat → Int32} (h : mo = (-1) ∨ (¬ mo < 0 ∧ gMh kd Mn mo dn mf hh)) (hM : ∀ j, j < 3 → Mn j ≤ 6) (hs : gSm kd kd' C C' Mn Mn') : mo = (-1) ∨ (¬ mo < 0 ∧ gMh kd' Mn' mo dn mf hh) := h.imp id (fun q => ⟨q.1, gMh_sm q.2 hM hs⟩)
theorem gRd_mo {kd kd9 : Nat → Int32} {C C9 Mn Mn9 : Nat → Nat} {mo mo9 rc rc9 cm cm9 ip ip9 : Int32} {dn dn9 : Nat} {df df9 mf hh : Nat → Int32} (h : mo = (-1) ∨ (¬ mo < 0 ∧ gMh kd Mn mo dn mf hh)) (hM : ∀ j, j < 3 → Mn j ≤ 6) (hz : (mo9 = mo ∧ dn9 = dn ∧ rc9 = rc ∧ cm9 = cm ∧ ip9 = ip ∧ df9 = df ∧ gSm kd kd9 C C9 Mn Mn9) ∨ (mo9 = (-1) ∧ dn9 = 0 ∧ rc9 = (-1) ∧ cm9 = (-1) ∧ ∀ t, t < 3 → df9 t = 0)) : mo9 = (-1) ∨ (¬ mo9 < 0 ∧ gMh kd9 Mn9 mo9 dn9 mf hh) := by
  rcases hz with ⟨rfl, rfl, _, _, _, _, hs⟩ | ⟨e, _⟩
  · exact gMo_sm h hM hs
  · exact Or.inl e
theorem gRd_a {kd kd9 fr en : Nat → Int32} {C C9 Mn Mn9 S E : Nat → Nat} {mo mo9 rc rc9 cm cm9 ip ip9 : Int32} {dn dn9 : Nat} {df df9 : Nat → Int32} (h : ∀ t, t < 2 → gA9 t df S E fr en) (hz : (mo9 = mo ∧ dn9 = dn ∧ rc9 = rc ∧ cm9 = cm ∧ ip9 = ip ∧ df9 = df ∧ gSm kd kd9 C C9 Mn Mn9) ∨ (mo9 = (-1) ∧ dn9 = 0 ∧ rc9 = (-1) ∧ cm9 = (-1) ∧ ∀ t, t < 3 → df9 t = 0)) : ∀ t, t < 2 → gA9 t df9 S E fr en := by
  rcases hz with ⟨_, _, _, _, _, rfl, _⟩ | ⟨_, _, _, _, hd⟩
  · exact h
  · exact fun t ht => Or.inl (hd t (by omega))
theorem gRd_c {kd kd9 : Nat → Int32} {C C9 Mn Mn9 : Nat → Nat} {mo mo9 rc rc9 cm cm9 ip ip9 : Int32} {dn dn9 : Nat} {df df9 : Nat → Int32} (h : gF3 cm) (hz : (mo9 = mo ∧ dn9 = dn ∧ rc9 = rc ∧ cm9 = cm ∧ ip9 = ip ∧ df9 = df ∧ gSm kd kd9 C C9 Mn Mn9) ∨ (mo9 = (-1) ∧ dn9 = 0 ∧ rc9 = (-1) ∧ cm9 = (-1) ∧ ∀ t, t < 3 → df9 t = 0)) : gF3 cm9 := by
  rcases hz with ⟨_, _, _, rfl, _⟩ | ⟨_, _, _, e, _⟩
  · exact h
  · exact Or.inl e
theorem fd_eq {tz tz9 tp9 : Nat} {r r9 : Int32} {f f9 g9 F : Nat → Int32} (h8 : (3980 < tz ∧ r = (-1) ∧ tz9 = tz ∧ f9 = f) ∨ (tz ≤ 3980 ∧ r = nI (tz + 20) ∧ tz9 = tz + 20 ∧ f9 = F)) (h9 : (3980 < tz ∧ r9 = (-1) ∧ tp9 = tz ∧ g9 = f) ∨ (tz ≤ 3980 ∧ r9 = nI (tz + 20) ∧ tp9 = tz + 20 ∧ g9 = F)) : r = r9 ∧ tz9 = tp9 ∧ f9 = g9 := by
  rcases h8 with ⟨a1, a2, a3, a4⟩ | ⟨a1, a2, a3, a4⟩ <;> rcases h9 with ⟨b1, b2, b3, b4⟩ | ⟨b1, b2, b3, b4⟩
  · exact ⟨a2.trans b2.symm, a3.trans b3.symm, a4.trans b4.symm⟩
  · omega
  · omega
  · exact ⟨a2.trans b2.symm, a3.trans b3.symm, a4.trans b4.symm⟩
theorem bk_all {tz tz9 tp9 : Nat} {r r9 z : Int32} (ht : tz ≤ 4000) (h8 : (r = (-1) ∧ tz9 = tz ∧ (z < 0 ∨ ¬ z ≤ nI tz)) ∨ (∃ j, j ≤ tz ∧ z = nI j ∧ r = nI (tz - j) ∧ tz9 = tz - j)) (h9 : (r9 = (-1) ∧ tp9 = tz ∧ (z < 0 ∨ ¬ z ≤ nI tz)) ∨ (∃ j, j ≤ tz ∧ z = nI j ∧ r9 = nI (tz - j) ∧ tp9 = tz - j)) : r = r9 ∧ tz9 = tp9 := by
  have key : ∀ j, j ≤ tz → z = nI j → ¬ (z < 0 ∨ ¬ z ≤ nI tz) := by
    intro j hj e q
    subst e
    rcases q with q | q
    · exact nI_pos (by omega) q
    · exact q ((nI_leI (a := j) (b := tz) (by omega) (by omega)).mpr hj)
  rcases h8 with ⟨a1, a2, a3⟩ | ⟨j, a1, a2, a5, a4⟩ <;> rcases h9 with ⟨b1, b2, b3⟩ | ⟨k, b1, b2, b5, b4⟩
  · exact ⟨a1.trans b1.symm, a2.trans b2.symm⟩
  · exact absurd a3 (key k b1 b2)
  · exact absurd b3 (key j a1 a2)
  · have := (nI_eq (a := j) (b := k) (by omega) (by omega)).mp (a2.symm.trans b2)
    subst this
    exact ⟨a5.trans b5.symm, a4.trans b4.symm⟩
theorem bk_er {tz tz9 tp9 : Nat} {r r9 z : Int32} (ht : tz ≤ 4000) (h8 : (r = (-1) ∧ tz9 = tz ∧ (z < 0 ∨ ¬ z ≤ nI tz)) ∨ (∃ j, j ≤ tz ∧ z = nI j ∧ r = nI (tz - j) ∧ tz9 = tz - j)) (h9 : (r9 = (-1) ∧ tp9 = tz ∧ (z < 0 ∨ ¬ z ≤ nI tz)) ∨ (∃ j, j ≤ tz ∧ z = nI j ∧ r9 = nI (tz - j) ∧ tp9 = tz - j)) : r = r9 := (bk_all ht h8 h9).1
theorem bk_eq {tz tz9 tp9 : Nat} {r r9 z : Int32} (ht : tz ≤ 4000) (h8 : (r = (-1) ∧ tz9 = tz ∧ (z < 0 ∨ ¬ z ≤ nI tz)) ∨ (∃ j, j ≤ tz ∧ z = nI j ∧ r = nI (tz - j) ∧ tz9 = tz - j)) (h9 : (r9 = (-1) ∧ tp9 = tz ∧ (z < 0 ∨ ¬ z ≤ nI tz)) ∨ (∃ j, j ≤ tz ∧ z = nI j ∧ r9 = nI (tz - j) ∧ tp9 = tz - j)) : tz9 = tp9 := (bk_all ht h8 h9).2
theorem bg_eq {r r9 ld z : Int32} (h8 : (r = 1 ∧ ¬ ld = 0 ∧ (z = 0 ∨ z = 1)) ∨ (r = 0 ∧ ¬ (¬ ld = 0 ∧ (z = 0 ∨ z = 1)))) (h9 : (r9 = 1 ∧ ¬ ld = 0 ∧ (z = 0 ∨ z = 1)) ∨ (r9 = 0 ∧ ¬ (¬ ld = 0 ∧ (z = 0 ∨ z = 1)))) : r = r9 := by
  rcases h8 with ⟨a, b⟩ | ⟨a, b⟩ <;> rcases h9 with ⟨c, d⟩ | ⟨c, d⟩
  · exact a.trans c.symm
  · exact absurd b d
  · exact absurd d b
  · exact a.trans c.symm
theorem rRes_u {X : (Nat × Nat) × Nat × Int32 × (Nat → Int32) × (Nat → Nat) × (Nat → Int32)} {sf : Nat → Int32} {z z9 pv pv9 : Int32} (h : rRes X sf z pv) (k : rRes X sf z9 pv9) : z = z9 ∧ pv = pv9 := by
  rcases h with ⟨a1, a2, a3⟩ | ⟨a1, a2, a3, a4⟩ | ⟨a1, a2, a3, a4⟩ <;> rcases k with ⟨b1, b2, b3⟩ | ⟨b1, b2, b3, b4⟩ | ⟨b1, b2, b3, b4⟩
  · exact ⟨a2.trans b2.symm, a3.trans b3.symm⟩
  · exact absurd b1 a1
  · exact absurd b1 a1
  · exact absurd a1 b1
  · exact ⟨a3.trans b3.symm, a4.trans b4.symm⟩
  · exact absurd a2 b2
  · exact absurd a1 b1
  · exact absurd b2 a2
  · exact ⟨a3.trans b3.symm, a4.trans b4.symm⟩
theorem rd_ld6 {r z ld ld9 ip : Int32} {P Q P1 Q1 : Prop} (h : (r = 0 ∧ ld9 = 1 ∧ P1) ∨ (¬ r = 0 ∧ ld9 = ld ∧ Q1)) (e : r = z) (k : (z = 0 ∧ ip = 1 ∧ P) ∨ (¬ z = 0 ∧ ip = ld ∧ Q)) : ld9 = ip := by
  subst e
  rcases h with ⟨a, b, _⟩ | ⟨a, b, _⟩ <;> rcases k with ⟨c, d, _⟩ | ⟨c, d, _⟩
  · exact b.trans d.symm
  · exact absurd a c
  · exact absurd c a
  · exact b.trans d.symm
theorem rd_MP {r z ld ld9 ip : Int32} {X : (Nat × Nat) × Nat × Int32 × (Nat → Int32) × (Nat → Nat) × (Nat → Int32)} {C C9 Mn Mn9 : Nat → Nat} {kd cl rg v1 i1 v2 i2 sk ci kd9 cl9 rg9 v19 i19 v29 i29 sk9 ci9 : Nat → Int32} {nc nc9 : Nat} {L L9 : Nat → Nat} {cf pf cf9 pf9 : Nat → Int32} (hC3 : C 0 ≤ 3) (hM : rMP ld C Mn kd cl rg v1 i1 v2 i2 sk ci nc L cf pf) (h : (r = 0 ∧ ld9 = 1 ∧ rPrg X nc9 pf9 L9 cf9) ∨ (¬ r = 0 ∧ ld9 = ld ∧ nc = nc9 ∧ L = L9 ∧ cf = cf9 ∧ pf = pf9)) (e : r = z) (k : (z = 0 ∧ ip = 1 ∧ rPM C9 Mn9 kd9 cl9 rg9 v19 i19 v29 i29 sk9 ci9 X) ∨ (¬ z = 0 ∧ ip = ld ∧ C9 0 = C 0 ∧ (∀ j, j < 3 → Mn9 j = Mn j) ∧ (∀ j, j < 36 → kd9 j = kd j) ∧ (∀ j, j < 36 → cl9 j = cl j) ∧ (∀ j, j < 36 → rg9 j = rg j) ∧ (∀ j, j < 36 → v19 j = v1 j) ∧ (∀ j, j < 36 → i19 j = i1 j) ∧ (∀ j, j < 36 → v29 j = v2 j) ∧ (∀ j, j < 36 → i29 j = i2 j) ∧ (∀ j, j < 36 → sk9 j = sk j) ∧ ∀ c, c < 4 → ci9 c = ci c)) : rMP ld9 C9 Mn9 kd9 cl9 rg9 v19 i19 v29 i29 sk9 ci9 nc9 L9 cf9 pf9 := by
  subst e
  rcases h with ⟨a, b, c⟩ | ⟨a, b, c1, c2, c3, c4⟩ <;> rcases k with ⟨d, _, g⟩ | ⟨d, _, g1, g2, g3, g4, g5, g6, g7, g8, g9, g10, g11⟩
  · exact rMP_r g c
  · exact absurd a d
  · exact absurd d a
  · subst b; subst c1; subst c2; subst c3; subst c4
    exact rMP_s8 hC3 hM g1 g2 ⟨g3, g4, g5, g6, g7, g8, g9, g10⟩ g11
