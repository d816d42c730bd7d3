/-! facts of the law and of what it alone reaches -/
theorem c74 : 74 < mnames ∧ nA 74 = 2 ∧ nS 74 = 1 := by decide +kernel
theorem m74 : (74 ≠ ensK ∧ 74 < mnames) ∧ nA 74 = 2 ∧ nL 74 = 2 := by decide +kernel
theorem r74 : nR 74 = (some .int) := by decide +kernel
theorem i74_0 : ins 74 0 = some (.aload_n 0, 0, 0, 0, 0) := by decide +kernel
theorem i74_1 : ins 74 1 = some (.arraylength, 0, 0, 0, 0) := by decide +kernel
theorem i74_2 : ins 74 2 = some (.ifCond .ne 13, 0, 0, 0, 0) := by decide +kernel
theorem g74_2 : tg 2 (13) = 15 := by decide
theorem i74_5 : ins 74 5 = some (.bipush 71, 0, 0, 0, 0) := by decide +kernel
theorem i74_7 : ins 74 7 = some (.iload_n 1, 0, 0, 0, 0) := by decide +kernel
theorem i74_8 : ins 74 8 = some (.imul, 0, 0, 0, 0) := by decide +kernel
theorem i74_9 : ins 74 9 = some (.bipush 13, 0, 0, 0, 0) := by decide +kernel
theorem i74_11 : ins 74 11 = some (.iadd, 0, 0, 0, 0) := by decide +kernel
theorem i74_12 : ins 74 12 = some (.goto 19, 0, 0, 0, 0) := by decide +kernel
theorem g74_12 : tg 12 (19) = 31 := by decide
theorem i74_15 : ins 74 15 = some (.aload_n 0, 0, 0, 0, 0) := by decide +kernel
theorem i74_16 : ins 74 16 = some (.iload_n 1, 0, 0, 0, 0) := by decide +kernel
theorem i74_17 : ins 74 17 = some (.aload_n 0, 0, 0, 0, 0) := by decide +kernel
theorem i74_18 : ins 74 18 = some (.arraylength, 0, 0, 0, 0) := by decide +kernel
theorem i74_19 : ins 74 19 = some (.irem, 0, 0, 0, 0) := by decide +kernel
theorem i74_20 : ins 74 20 = some (.iaload, 0, 0, 0, 0) := by decide +kernel
theorem i74_21 : ins 74 21 = some (.iconst 5, 0, 0, 0, 0) := by decide +kernel
theorem i74_22 : ins 74 22 = some (.iload_n 1, 0, 0, 0, 0) := by decide +kernel
theorem i74_23 : ins 74 23 = some (.aload_n 0, 0, 0, 0, 0) := by decide +kernel
theorem i74_24 : ins 74 24 = some (.arraylength, 0, 0, 0, 0) := by decide +kernel
theorem i74_25 : ins 74 25 = some (.idiv, 0, 0, 0, 0) := by decide +kernel
theorem i74_26 : ins 74 26 = some (.imul, 0, 0, 0, 0) := by decide +kernel
theorem i74_27 : ins 74 27 = some (.bipush 17, 0, 0, 0, 0) := by decide +kernel
theorem i74_29 : ins 74 29 = some (.irem, 0, 0, 0, 0) := by decide +kernel
theorem i74_30 : ins 74 30 = some (.iushr, 0, 0, 0, 0) := by decide +kernel
theorem i74_31 : ins 74 31 = some (.ireturn, 0, 0, 0, 0) := by decide +kernel
theorem c108 : 108 < mnames ∧ nA 108 = 2 ∧ nS 108 = 1 := by decide +kernel
theorem m108 : (108 ≠ ensK ∧ 108 < mnames) ∧ nA 108 = 2 ∧ nL 108 = 2 := by decide +kernel
theorem r108 : nR 108 = (some .int) := by decide +kernel
theorem i108_0 : ins 108 0 = some (.aload_n 0, 0, 0, 0, 0) := by decide +kernel
theorem i108_1 : ins 108 1 = some (.bipush 25, 0, 0, 0, 0) := by decide +kernel
theorem i108_3 : ins 108 3 = some (.invokevirtual 23, 103, 119, 0, 0) := by decide +kernel
theorem i108_6 : ins 108 6 = some (.ifCond .ne 7, 0, 0, 0, 0) := by decide +kernel
theorem g108_6 : tg 6 (7) = 13 := by decide
theorem i108_9 : ins 108 9 = some (.iload_n 1, 0, 0, 0, 0) := by decide +kernel
theorem i108_10 : ins 108 10 = some (.goto 12, 0, 0, 0, 0) := by decide +kernel
theorem g108_10 : tg 10 (12) = 22 := by decide
theorem i108_13 : ins 108 13 = some (.aload_n 0, 0, 0, 0, 0) := by decide +kernel
theorem i108_14 : ins 108 14 = some (.iconst 1, 0, 0, 0, 0) := by decide +kernel
theorem i108_15 : ins 108 15 = some (.iload_n 1, 0, 0, 0, 0) := by decide +kernel
theorem i108_16 : ins 108 16 = some (.invokestatic 28, 104, 203, 1, 0) := by decide +kernel
theorem i108_19 : ins 108 19 = some (.invokevirtual 23, 103, 119, 0, 0) := by decide +kernel
theorem i108_22 : ins 108 22 = some (.ireturn, 0, 0, 0, 0) := by decide +kernel
theorem c109 : 109 < mnames ∧ nA 109 = 3 ∧ nS 109 = 1 := by decide +kernel
theorem m109 : (109 ≠ ensK ∧ 109 < mnames) ∧ nA 109 = 3 ∧ nL 109 = 5 := by decide +kernel
theorem r109 : nR 109 = (some .int) := by decide +kernel
theorem i109_0 : ins 109 0 = some (.aload_n 2, 0, 0, 0, 0) := by decide +kernel
theorem i109_1 : ins 109 1 = some (.bipush 6, 0, 0, 0, 0) := by decide +kernel
theorem i109_3 : ins 109 3 = some (.invokestatic 34, 105, 108, 1, 0) := by decide +kernel
theorem i109_6 : ins 109 6 = some (.istore_n 3, 0, 0, 0, 0) := by decide +kernel
theorem i109_7 : ins 109 7 = some (.aload_n 2, 0, 0, 0, 0) := by decide +kernel
theorem i109_8 : ins 109 8 = some (.aload_n 0, 0, 0, 0, 0) := by decide +kernel
theorem i109_9 : ins 109 9 = some (.iconst 0, 0, 0, 0, 0) := by decide +kernel
theorem i109_10 : ins 109 10 = some (.invokevirtual 40, 106, 80, 0, 0) := by decide +kernel
theorem i109_13 : ins 109 13 = some (.invokestatic 34, 105, 108, 1, 0) := by decide +kernel
theorem i109_16 : ins 109 16 = some (.istore 4, 0, 0, 0, 0) := by decide +kernel
theorem i109_18 : ins 109 18 = some (.iload_n 1, 0, 0, 0, 0) := by decide +kernel
theorem i109_19 : ins 109 19 = some (.bipush 34, 0, 0, 0, 0) := by decide +kernel
theorem i109_21 : ins 109 21 = some (.irem, 0, 0, 0, 0) := by decide +kernel
theorem i109_22 : ins 109 22 = some (.tableswitch 413 0 30 #[138, 138, 138, 138, 138, 201, 201, 201, 201, 201, 242, 242, 242, 242, 285, 285, 285, 327, 327, 327, 327, 368, 368, 368, 373, 373, 373, 395, 395, 395, 407], 0, 0, 0, 0) := by decide +kernel
theorem i109_160 : ins 109 160 = some (.aload_n 0, 0, 0, 0, 0) := by decide +kernel
theorem i109_161 : ins 109 161 = some (.iload_n 3, 0, 0, 0, 0) := by decide +kernel
theorem i109_162 : ins 109 162 = some (.aload_n 2, 0, 0, 0, 0) := by decide +kernel
theorem i109_163 : ins 109 163 = some (.bipush 20, 0, 0, 0, 0) := by decide +kernel
theorem i109_165 : ins 109 165 = some (.invokevirtual 23, 103, 119, 0, 0) := by decide +kernel
theorem i109_168 : ins 109 168 = some (.ifCond .ne 8, 0, 0, 0, 0) := by decide +kernel
theorem g109_168 : tg 168 (8) = 176 := by decide
theorem i109_171 : ins 109 171 = some (.bipush 31, 0, 0, 0, 0) := by decide +kernel
theorem i109_173 : ins 109 173 = some (.goto 24, 0, 0, 0, 0) := by decide +kernel
theorem g109_173 : tg 173 (24) = 197 := by decide
theorem i109_176 : ins 109 176 = some (.iconst 1, 0, 0, 0, 0) := by decide +kernel
theorem i109_177 : ins 109 177 = some (.aload_n 2, 0, 0, 0, 0) := by decide +kernel
theorem i109_178 : ins 109 178 = some (.aload_n 2, 0, 0, 0, 0) := by decide +kernel
theorem i109_179 : ins 109 179 = some (.iconst 3, 0, 0, 0, 0) := by decide +kernel
theorem i109_180 : ins 109 180 = some (.invokevirtual 23, 103, 119, 0, 0) := by decide +kernel
theorem i109_183 : ins 109 183 = some (.ifCond .ne 8, 0, 0, 0, 0) := by decide +kernel
theorem g109_183 : tg 183 (8) = 191 := by decide
theorem i109_186 : ins 109 186 = some (.bipush 30, 0, 0, 0, 0) := by decide +kernel
theorem i109_188 : ins 109 188 = some (.goto 5, 0, 0, 0, 0) := by decide +kernel
theorem g109_188 : tg 188 (5) = 193 := by decide
theorem i109_191 : ins 109 191 = some (.bipush 9, 0, 0, 0, 0) := by decide +kernel
theorem i109_193 : ins 109 193 = some (.invokevirtual 23, 103, 119, 0, 0) := by decide +kernel
theorem i109_196 : ins 109 196 = some (.iadd, 0, 0, 0, 0) := by decide +kernel
theorem i109_197 : ins 109 197 = some (.aload_n 2, 0, 0, 0, 0) := by decide +kernel
theorem i109_198 : ins 109 198 = some (.bipush 20, 0, 0, 0, 0) := by decide +kernel
theorem i109_200 : ins 109 200 = some (.invokevirtual 23, 103, 119, 0, 0) := by decide +kernel
theorem i109_203 : ins 109 203 = some (.ifCond .ne 8, 0, 0, 0, 0) := by decide +kernel
theorem g109_203 : tg 203 (8) = 211 := by decide
theorem i109_206 : ins 109 206 = some (.bipush 10, 0, 0, 0, 0) := by decide +kernel
theorem i109_208 : ins 109 208 = some (.goto 11, 0, 0, 0, 0) := by decide +kernel
theorem g109_208 : tg 208 (11) = 219 := by decide
theorem i109_211 : ins 109 211 = some (.iconst 1, 0, 0, 0, 0) := by decide +kernel
theorem i109_212 : ins 109 212 = some (.aload_n 2, 0, 0, 0, 0) := by decide +kernel
theorem i109_213 : ins 109 213 = some (.bipush 9, 0, 0, 0, 0) := by decide +kernel
theorem i109_215 : ins 109 215 = some (.invokevirtual 23, 103, 119, 0, 0) := by decide +kernel
theorem i109_218 : ins 109 218 = some (.iadd, 0, 0, 0, 0) := by decide +kernel
theorem i109_219 : ins 109 219 = some (.invokevirtual 43, 107, 54, 0, 0) := by decide +kernel
theorem i109_222 : ins 109 222 = some (.ireturn, 0, 0, 0, 0) := by decide +kernel
theorem i109_223 : ins 109 223 = some (.aload_n 0, 0, 0, 0, 0) := by decide +kernel
theorem i109_224 : ins 109 224 = some (.iload 4, 0, 0, 0, 0) := by decide +kernel
theorem i109_226 : ins 109 226 = some (.aload_n 2, 0, 0, 0, 0) := by decide +kernel
theorem i109_227 : ins 109 227 = some (.bipush 20, 0, 0, 0, 0) := by decide +kernel
theorem i109_229 : ins 109 229 = some (.invokevirtual 23, 103, 119, 0, 0) := by decide +kernel
theorem i109_232 : ins 109 232 = some (.ifCond .ne 8, 0, 0, 0, 0) := by decide +kernel
theorem g109_232 : tg 232 (8) = 240 := by decide
theorem i109_235 : ins 109 235 = some (.bipush 31, 0, 0, 0, 0) := by decide +kernel
theorem i109_237 : ins 109 237 = some (.goto 23, 0, 0, 0, 0) := by decide +kernel
theorem g109_237 : tg 237 (23) = 260 := by decide
theorem i109_240 : ins 109 240 = some (.iconst 1, 0, 0, 0, 0) := by decide +kernel
theorem i109_241 : ins 109 241 = some (.aload_n 2, 0, 0, 0, 0) := by decide +kernel
theorem i109_242 : ins 109 242 = some (.aload_n 2, 0, 0, 0, 0) := by decide +kernel
theorem i109_243 : ins 109 243 = some (.iconst 4, 0, 0, 0, 0) := by decide +kernel
theorem i109_244 : ins 109 244 = some (.invokevirtual 23, 103, 119, 0, 0) := by decide +kernel
theorem i109_247 : ins 109 247 = some (.ifCond .ne 8, 0, 0, 0, 0) := by decide +kernel
theorem g109_247 : tg 247 (8) = 255 := by decide
theorem i109_250 : ins 109 250 = some (.bipush 20, 0, 0, 0, 0) := by decide +kernel
theorem i109_252 : ins 109 252 = some (.goto 4, 0, 0, 0, 0) := by decide +kernel
theorem g109_252 : tg 252 (4) = 256 := by decide
theorem i109_255 : ins 109 255 = some (.iconst 4, 0, 0, 0, 0) := by decide +kernel
theorem i109_256 : ins 109 256 = some (.invokevirtual 23, 103, 119, 0, 0) := by decide +kernel
theorem i109_259 : ins 109 259 = some (.iadd, 0, 0, 0, 0) := by decide +kernel
theorem i109_260 : ins 109 260 = some (.invokevirtual 47, 108, 55, 0, 0) := by decide +kernel
theorem i109_263 : ins 109 263 = some (.ireturn, 0, 0, 0, 0) := by decide +kernel
theorem i109_264 : ins 109 264 = some (.aload_n 0, 0, 0, 0, 0) := by decide +kernel
theorem i109_265 : ins 109 265 = some (.iload 4, 0, 0, 0, 0) := by decide +kernel
theorem i109_267 : ins 109 267 = some (.iload_n 3, 0, 0, 0, 0) := by decide +kernel
theorem i109_268 : ins 109 268 = some (.aload_n 2, 0, 0, 0, 0) := by decide +kernel
theorem i109_269 : ins 109 269 = some (.bipush 20, 0, 0, 0, 0) := by decide +kernel
theorem i109_271 : ins 109 271 = some (.invokevirtual 23, 103, 119, 0, 0) := by decide +kernel
theorem i109_274 : ins 109 274 = some (.ifCond .ne 8, 0, 0, 0, 0) := by decide +kernel
theorem g109_274 : tg 274 (8) = 282 := by decide
theorem i109_277 : ins 109 277 = some (.bipush 91, 0, 0, 0, 0) := by decide +kernel
theorem i109_279 : ins 109 279 = some (.goto 24, 0, 0, 0, 0) := by decide +kernel
theorem g109_279 : tg 279 (24) = 303 := by decide
theorem i109_282 : ins 109 282 = some (.iconst 1, 0, 0, 0, 0) := by decide +kernel
theorem i109_283 : ins 109 283 = some (.aload_n 2, 0, 0, 0, 0) := by decide +kernel
theorem i109_284 : ins 109 284 = some (.aload_n 2, 0, 0, 0, 0) := by decide +kernel
theorem i109_285 : ins 109 285 = some (.iconst 3, 0, 0, 0, 0) := by decide +kernel
theorem i109_286 : ins 109 286 = some (.invokevirtual 23, 103, 119, 0, 0) := by decide +kernel
theorem i109_289 : ins 109 289 = some (.ifCond .ne 8, 0, 0, 0, 0) := by decide +kernel
theorem g109_289 : tg 289 (8) = 297 := by decide
theorem i109_292 : ins 109 292 = some (.bipush 90, 0, 0, 0, 0) := by decide +kernel
theorem i109_294 : ins 109 294 = some (.goto 5, 0, 0, 0, 0) := by decide +kernel
theorem g109_294 : tg 294 (5) = 299 := by decide
theorem i109_297 : ins 109 297 = some (.bipush 20, 0, 0, 0, 0) := by decide +kernel
theorem i109_299 : ins 109 299 = some (.invokevirtual 23, 103, 119, 0, 0) := by decide +kernel
theorem i109_302 : ins 109 302 = some (.iadd, 0, 0, 0, 0) := by decide +kernel
theorem i109_303 : ins 109 303 = some (.invokevirtual 50, 109, 56, 0, 0) := by decide +kernel
theorem i109_306 : ins 109 306 = some (.ireturn, 0, 0, 0, 0) := by decide +kernel
theorem i109_307 : ins 109 307 = some (.aload_n 0, 0, 0, 0, 0) := by decide +kernel
theorem i109_308 : ins 109 308 = some (.iload_n 3, 0, 0, 0, 0) := by decide +kernel
theorem i109_309 : ins 109 309 = some (.iload 4, 0, 0, 0, 0) := by decide +kernel
theorem i109_311 : ins 109 311 = some (.aload_n 2, 0, 0, 0, 0) := by decide +kernel
theorem i109_312 : ins 109 312 = some (.bipush 20, 0, 0, 0, 0) := by decide +kernel
theorem i109_314 : ins 109 314 = some (.invokevirtual 23, 103, 119, 0, 0) := by decide +kernel
theorem i109_317 : ins 109 317 = some (.ifCond .ne 8, 0, 0, 0, 0) := by decide +kernel
theorem g109_317 : tg 317 (8) = 325 := by decide
theorem i109_320 : ins 109 320 = some (.bipush 25, 0, 0, 0, 0) := by decide +kernel
theorem i109_322 : ins 109 322 = some (.goto 23, 0, 0, 0, 0) := by decide +kernel
theorem g109_322 : tg 322 (23) = 345 := by decide
theorem i109_325 : ins 109 325 = some (.iconst 1, 0, 0, 0, 0) := by decide +kernel
theorem i109_326 : ins 109 326 = some (.aload_n 2, 0, 0, 0, 0) := by decide +kernel
theorem i109_327 : ins 109 327 = some (.aload_n 2, 0, 0, 0, 0) := by decide +kernel
theorem i109_328 : ins 109 328 = some (.iconst 3, 0, 0, 0, 0) := by decide +kernel
theorem i109_329 : ins 109 329 = some (.invokevirtual 23, 103, 119, 0, 0) := by decide +kernel
theorem i109_332 : ins 109 332 = some (.ifCond .ne 8, 0, 0, 0, 0) := by decide +kernel
theorem g109_332 : tg 332 (8) = 340 := by decide
theorem i109_335 : ins 109 335 = some (.bipush 24, 0, 0, 0, 0) := by decide +kernel
theorem i109_337 : ins 109 337 = some (.goto 4, 0, 0, 0, 0) := by decide +kernel
theorem g109_337 : tg 337 (4) = 341 := by decide
theorem i109_340 : ins 109 340 = some (.iconst 5, 0, 0, 0, 0) := by decide +kernel
theorem i109_341 : ins 109 341 = some (.invokevirtual 23, 103, 119, 0, 0) := by decide +kernel
theorem i109_344 : ins 109 344 = some (.iadd, 0, 0, 0, 0) := by decide +kernel
theorem i109_345 : ins 109 345 = some (.invokevirtual 53, 110, 57, 0, 0) := by decide +kernel
theorem i109_348 : ins 109 348 = some (.ireturn, 0, 0, 0, 0) := by decide +kernel
theorem i109_349 : ins 109 349 = some (.aload_n 0, 0, 0, 0, 0) := by decide +kernel
theorem i109_350 : ins 109 350 = some (.iload 4, 0, 0, 0, 0) := by decide +kernel
theorem i109_352 : ins 109 352 = some (.aload_n 2, 0, 0, 0, 0) := by decide +kernel
theorem i109_353 : ins 109 353 = some (.bipush 20, 0, 0, 0, 0) := by decide +kernel
theorem i109_355 : ins 109 355 = some (.invokevirtual 23, 103, 119, 0, 0) := by decide +kernel
theorem i109_358 : ins 109 358 = some (.ifCond .ne 8, 0, 0, 0, 0) := by decide +kernel
theorem g109_358 : tg 358 (8) = 366 := by decide
theorem i109_361 : ins 109 361 = some (.bipush 31, 0, 0, 0, 0) := by decide +kernel
theorem i109_363 : ins 109 363 = some (.goto 23, 0, 0, 0, 0) := by decide +kernel
theorem g109_363 : tg 363 (23) = 386 := by decide
theorem i109_366 : ins 109 366 = some (.iconst 1, 0, 0, 0, 0) := by decide +kernel
theorem i109_367 : ins 109 367 = some (.aload_n 2, 0, 0, 0, 0) := by decide +kernel
theorem i109_368 : ins 109 368 = some (.aload_n 2, 0, 0, 0, 0) := by decide +kernel
theorem i109_369 : ins 109 369 = some (.iconst 3, 0, 0, 0, 0) := by decide +kernel
theorem i109_370 : ins 109 370 = some (.invokevirtual 23, 103, 119, 0, 0) := by decide +kernel
theorem i109_373 : ins 109 373 = some (.ifCond .ne 8, 0, 0, 0, 0) := by decide +kernel
theorem g109_373 : tg 373 (8) = 381 := by decide
theorem i109_376 : ins 109 376 = some (.bipush 12, 0, 0, 0, 0) := by decide +kernel
theorem i109_378 : ins 109 378 = some (.goto 4, 0, 0, 0, 0) := by decide +kernel
theorem g109_378 : tg 378 (4) = 382 := by decide
theorem i109_381 : ins 109 381 = some (.iconst 4, 0, 0, 0, 0) := by decide +kernel
theorem i109_382 : ins 109 382 = some (.invokevirtual 23, 103, 119, 0, 0) := by decide +kernel
theorem i109_385 : ins 109 385 = some (.iadd, 0, 0, 0, 0) := by decide +kernel
theorem i109_386 : ins 109 386 = some (.invokevirtual 56, 111, 59, 0, 0) := by decide +kernel
theorem i109_389 : ins 109 389 = some (.ireturn, 0, 0, 0, 0) := by decide +kernel
theorem i109_390 : ins 109 390 = some (.aload_n 0, 0, 0, 0, 0) := by decide +kernel
theorem i109_391 : ins 109 391 = some (.invokevirtual 59, 112, 60, 0, 0) := by decide +kernel
theorem i109_394 : ins 109 394 = some (.ireturn, 0, 0, 0, 0) := by decide +kernel
theorem i109_395 : ins 109 395 = some (.aload_n 0, 0, 0, 0, 0) := by decide +kernel
theorem i109_396 : ins 109 396 = some (.iload_n 3, 0, 0, 0, 0) := by decide +kernel
theorem i109_397 : ins 109 397 = some (.iconst 1, 0, 0, 0, 0) := by decide +kernel
theorem i109_398 : ins 109 398 = some (.aload_n 2, 0, 0, 0, 0) := by decide +kernel
theorem i109_399 : ins 109 399 = some (.bipush 6, 0, 0, 0, 0) := by decide +kernel
theorem i109_401 : ins 109 401 = some (.invokevirtual 23, 103, 119, 0, 0) := by decide +kernel
theorem i109_404 : ins 109 404 = some (.iadd, 0, 0, 0, 0) := by decide +kernel
theorem i109_405 : ins 109 405 = some (.iconst 1, 0, 0, 0, 0) := by decide +kernel
theorem i109_406 : ins 109 406 = some (.aload_n 2, 0, 0, 0, 0) := by decide +kernel
theorem i109_407 : ins 109 407 = some (.bipush 9, 0, 0, 0, 0) := by decide +kernel
theorem i109_409 : ins 109 409 = some (.invokevirtual 23, 103, 119, 0, 0) := by decide +kernel
theorem i109_412 : ins 109 412 = some (.iadd, 0, 0, 0, 0) := by decide +kernel
theorem i109_413 : ins 109 413 = some (.invokevirtual 62, 113, 63, 0, 0) := by decide +kernel
theorem i109_416 : ins 109 416 = some (.ireturn, 0, 0, 0, 0) := by decide +kernel
theorem i109_417 : ins 109 417 = some (.aload_n 0, 0, 0, 0, 0) := by decide +kernel
theorem i109_418 : ins 109 418 = some (.iload_n 3, 0, 0, 0, 0) := by decide +kernel
theorem i109_419 : ins 109 419 = some (.aload_n 2, 0, 0, 0, 0) := by decide +kernel
theorem i109_420 : ins 109 420 = some (.bipush 6, 0, 0, 0, 0) := by decide +kernel
theorem i109_422 : ins 109 422 = some (.invokestatic 34, 105, 108, 1, 0) := by decide +kernel
theorem i109_425 : ins 109 425 = some (.invokevirtual 65, 114, 64, 0, 0) := by decide +kernel
theorem i109_428 : ins 109 428 = some (.ireturn, 0, 0, 0, 0) := by decide +kernel
theorem i109_429 : ins 109 429 = some (.aload_n 0, 0, 0, 0, 0) := by decide +kernel
theorem i109_430 : ins 109 430 = some (.iload_n 3, 0, 0, 0, 0) := by decide +kernel
theorem i109_431 : ins 109 431 = some (.invokevirtual 68, 115, 65, 0, 0) := by decide +kernel
theorem i109_434 : ins 109 434 = some (.ireturn, 0, 0, 0, 0) := by decide +kernel
theorem i109_435 : ins 109 435 = some (.aload_n 0, 0, 0, 0, 0) := by decide +kernel
theorem i109_436 : ins 109 436 = some (.aload_n 2, 0, 0, 0, 0) := by decide +kernel
theorem i109_437 : ins 109 437 = some (.bipush 20, 0, 0, 0, 0) := by decide +kernel
theorem i109_439 : ins 109 439 = some (.invokevirtual 23, 103, 119, 0, 0) := by decide +kernel
theorem i109_442 : ins 109 442 = some (.ifCond .ne 8, 0, 0, 0, 0) := by decide +kernel
theorem g109_442 : tg 442 (8) = 450 := by decide
theorem i109_445 : ins 109 445 = some (.bipush 25, 0, 0, 0, 0) := by decide +kernel
theorem i109_447 : ins 109 447 = some (.goto 10, 0, 0, 0, 0) := by decide +kernel
theorem g109_447 : tg 447 (10) = 457 := by decide
theorem i109_450 : ins 109 450 = some (.iconst 1, 0, 0, 0, 0) := by decide +kernel
theorem i109_451 : ins 109 451 = some (.aload_n 2, 0, 0, 0, 0) := by decide +kernel
theorem i109_452 : ins 109 452 = some (.iconst 5, 0, 0, 0, 0) := by decide +kernel
theorem i109_453 : ins 109 453 = some (.invokevirtual 23, 103, 119, 0, 0) := by decide +kernel
theorem i109_456 : ins 109 456 = some (.iadd, 0, 0, 0, 0) := by decide +kernel
theorem i109_457 : ins 109 457 = some (.invokevirtual 71, 116, 66, 0, 0) := by decide +kernel
theorem i109_460 : ins 109 460 = some (.ireturn, 0, 0, 0, 0) := by decide +kernel
theorem c110 : 110 < mnames ∧ nA 110 = 2 ∧ nS 110 = 1 := by decide +kernel
theorem m110 : (110 ≠ ensK ∧ 110 < mnames) ∧ nA 110 = 2 ∧ nL 110 = 4 := by decide +kernel
theorem r110 : nR 110 = (some (.object "java/lang/String")) := by decide +kernel
theorem i110_0 : ins 110 0 = some (.new 74, 0, 0, 0, 0) := by decide +kernel
theorem i110_3 : ins 110 3 = some (.dup, 0, 0, 0, 0) := by decide +kernel
theorem i110_4 : ins 110 4 = some (.invokespecial 76, 117, 122, 4, 0) := by decide +kernel
theorem i110_7 : ins 110 7 = some (.astore_n 2, 0, 0, 0, 0) := by decide +kernel
theorem i110_8 : ins 110 8 = some (.iconst 0, 0, 0, 0, 0) := by decide +kernel
theorem i110_9 : ins 110 9 = some (.istore_n 3, 0, 0, 0, 0) := by decide +kernel
theorem i110_10 : ins 110 10 = some (.iload_n 3, 0, 0, 0, 0) := by decide +kernel
theorem i110_11 : ins 110 11 = some (.iload_n 1, 0, 0, 0, 0) := by decide +kernel
theorem i110_12 : ins 110 12 = some (.if_icmp .ge 20, 0, 0, 0, 0) := by decide +kernel
theorem g110_12 : tg 12 (20) = 32 := by decide
theorem i110_15 : ins 110 15 = some (.aload_n 2, 0, 0, 0, 0) := by decide +kernel
theorem i110_16 : ins 110 16 = some (.aload_n 0, 0, 0, 0, 0) := by decide +kernel
theorem i110_17 : ins 110 17 = some (.iload_n 3, 0, 0, 0, 0) := by decide +kernel
theorem i110_18 : ins 110 18 = some (.invokevirtual 77, 118, 78, 0, 0) := by decide +kernel
theorem i110_21 : ins 110 21 = some (.i2c, 0, 0, 0, 0) := by decide +kernel
theorem i110_22 : ins 110 22 = some (.invokevirtual 80, 119, 189, 0, 0) := by decide +kernel
theorem i110_25 : ins 110 25 = some (.pop, 0, 0, 0, 0) := by decide +kernel
theorem i110_26 : ins 110 26 = some (.iinc 3 1, 0, 0, 0, 0) := by decide +kernel
theorem i110_29 : ins 110 29 = some (.goto (-19), 0, 0, 0, 0) := by decide +kernel
theorem g110_29 : tg 29 (-19) = 10 := by decide
theorem i110_32 : ins 110 32 = some (.aload_n 2, 0, 0, 0, 0) := by decide +kernel
theorem i110_33 : ins 110 33 = some (.invokevirtual 83, 120, 135, 0, 0) := by decide +kernel
theorem i110_36 : ins 110 36 = some (.areturn, 0, 0, 0, 0) := by decide +kernel
theorem c111 : 111 < mnames ∧ nA 111 = 1 ∧ nS 111 = 1 := by decide +kernel
theorem m111 : (111 ≠ ensK ∧ 111 < mnames) ∧ nA 111 = 1 ∧ nL 111 = 3 := by decide +kernel
theorem r111 : nR 111 = (some (.object "java/lang/String")) := by decide +kernel
theorem i111_0 : ins 111 0 = some (.new 74, 0, 0, 0, 0) := by decide +kernel
theorem i111_3 : ins 111 3 = some (.dup, 0, 0, 0, 0) := by decide +kernel
theorem i111_4 : ins 111 4 = some (.aload_n 0, 0, 0, 0, 0) := by decide +kernel
theorem i111_5 : ins 111 5 = some (.aload_n 0, 0, 0, 0, 0) := by decide +kernel
theorem i111_6 : ins 111 6 = some (.invokevirtual 87, 121, 77, 0, 0) := by decide +kernel
theorem i111_9 : ins 111 9 = some (.invokestatic 90, 122, 110, 1, 0) := by decide +kernel
theorem i111_12 : ins 111 12 = some (.invokespecial 94, 123, 123, 4, 0) := by decide +kernel
theorem i111_15 : ins 111 15 = some (.astore_n 1, 0, 0, 0, 0) := by decide +kernel
theorem i111_16 : ins 111 16 = some (.iconst 0, 0, 0, 0, 0) := by decide +kernel
theorem i111_17 : ins 111 17 = some (.istore_n 2, 0, 0, 0, 0) := by decide +kernel
theorem i111_18 : ins 111 18 = some (.iload_n 2, 0, 0, 0, 0) := by decide +kernel
theorem i111_19 : ins 111 19 = some (.bipush 12, 0, 0, 0, 0) := by decide +kernel
theorem i111_21 : ins 111 21 = some (.if_icmp .ge 24, 0, 0, 0, 0) := by decide +kernel
theorem g111_21 : tg 21 (24) = 45 := by decide
theorem i111_24 : ins 111 24 = some (.aload_n 1, 0, 0, 0, 0) := by decide +kernel
theorem i111_25 : ins 111 25 = some (.bipush 44, 0, 0, 0, 0) := by decide +kernel
theorem i111_27 : ins 111 27 = some (.invokevirtual 80, 119, 189, 0, 0) := by decide +kernel
theorem i111_30 : ins 111 30 = some (.aload_n 0, 0, 0, 0, 0) := by decide +kernel
theorem i111_31 : ins 111 31 = some (.iload_n 2, 0, 0, 0, 0) := by decide +kernel
theorem i111_32 : ins 111 32 = some (.invokevirtual 40, 106, 80, 0, 0) := by decide +kernel
theorem i111_35 : ins 111 35 = some (.invokevirtual 97, 124, 190, 0, 0) := by decide +kernel
theorem i111_38 : ins 111 38 = some (.pop, 0, 0, 0, 0) := by decide +kernel
theorem i111_39 : ins 111 39 = some (.iinc 2 1, 0, 0, 0, 0) := by decide +kernel
theorem i111_42 : ins 111 42 = some (.goto (-24), 0, 0, 0, 0) := by decide +kernel
theorem g111_42 : tg 42 (-24) = 18 := by decide
theorem i111_45 : ins 111 45 = some (.iconst 0, 0, 0, 0, 0) := by decide +kernel
theorem i111_46 : ins 111 46 = some (.istore_n 2, 0, 0, 0, 0) := by decide +kernel
theorem i111_47 : ins 111 47 = some (.iload_n 2, 0, 0, 0, 0) := by decide +kernel
theorem i111_48 : ins 111 48 = some (.aload_n 0, 0, 0, 0, 0) := by decide +kernel
theorem i111_49 : ins 111 49 = some (.iconst 0, 0, 0, 0, 0) := by decide +kernel
theorem i111_50 : ins 111 50 = some (.invokevirtual 40, 106, 80, 0, 0) := by decide +kernel
theorem i111_53 : ins 111 53 = some (.if_icmp .ge 58, 0, 0, 0, 0) := by decide +kernel
theorem g111_53 : tg 53 (58) = 111 := by decide
theorem i111_56 : ins 111 56 = some (.aload_n 1, 0, 0, 0, 0) := by decide +kernel
theorem i111_57 : ins 111 57 = some (.bipush 59, 0, 0, 0, 0) := by decide +kernel
theorem i111_59 : ins 111 59 = some (.invokevirtual 80, 119, 189, 0, 0) := by decide +kernel
theorem i111_62 : ins 111 62 = some (.aload_n 0, 0, 0, 0, 0) := by decide +kernel
theorem i111_63 : ins 111 63 = some (.aload_n 0, 0, 0, 0, 0) := by decide +kernel
theorem i111_64 : ins 111 64 = some (.iload_n 2, 0, 0, 0, 0) := by decide +kernel
theorem i111_65 : ins 111 65 = some (.invokevirtual 100, 125, 76, 0, 0) := by decide +kernel
theorem i111_68 : ins 111 68 = some (.invokestatic 90, 122, 110, 1, 0) := by decide +kernel
theorem i111_71 : ins 111 71 = some (.invokevirtual 103, 126, 126, 0, 0) := by decide +kernel
theorem i111_74 : ins 111 74 = some (.bipush 47, 0, 0, 0, 0) := by decide +kernel
theorem i111_76 : ins 111 76 = some (.invokevirtual 80, 119, 189, 0, 0) := by decide +kernel
theorem i111_79 : ins 111 79 = some (.aload_n 0, 0, 0, 0, 0) := by decide +kernel
theorem i111_80 : ins 111 80 = some (.iload_n 2, 0, 0, 0, 0) := by decide +kernel
theorem i111_81 : ins 111 81 = some (.bipush 6, 0, 0, 0, 0) := by decide +kernel
theorem i111_83 : ins 111 83 = some (.invokevirtual 106, 127, 58, 0, 0) := by decide +kernel
theorem i111_86 : ins 111 86 = some (.invokevirtual 97, 124, 190, 0, 0) := by decide +kernel
theorem i111_89 : ins 111 89 = some (.bipush 44, 0, 0, 0, 0) := by decide +kernel
theorem i111_91 : ins 111 91 = some (.invokevirtual 80, 119, 189, 0, 0) := by decide +kernel
theorem i111_94 : ins 111 94 = some (.aload_n 0, 0, 0, 0, 0) := by decide +kernel
theorem i111_95 : ins 111 95 = some (.iload_n 2, 0, 0, 0, 0) := by decide +kernel
theorem i111_96 : ins 111 96 = some (.bipush 7, 0, 0, 0, 0) := by decide +kernel
theorem i111_98 : ins 111 98 = some (.invokevirtual 106, 127, 58, 0, 0) := by decide +kernel
theorem i111_101 : ins 111 101 = some (.invokevirtual 97, 124, 190, 0, 0) := by decide +kernel
theorem i111_104 : ins 111 104 = some (.pop, 0, 0, 0, 0) := by decide +kernel
theorem i111_105 : ins 111 105 = some (.iinc 2 1, 0, 0, 0, 0) := by decide +kernel
theorem i111_108 : ins 111 108 = some (.goto (-61), 0, 0, 0, 0) := by decide +kernel
theorem g111_108 : tg 108 (-61) = 47 := by decide
theorem i111_111 : ins 111 111 = some (.iconst 0, 0, 0, 0, 0) := by decide +kernel
theorem i111_112 : ins 111 112 = some (.istore_n 2, 0, 0, 0, 0) := by decide +kernel
theorem i111_113 : ins 111 113 = some (.iload_n 2, 0, 0, 0, 0) := by decide +kernel
theorem i111_114 : ins 111 114 = some (.bipush 6, 0, 0, 0, 0) := by decide +kernel
theorem i111_116 : ins 111 116 = some (.if_icmp .ge 25, 0, 0, 0, 0) := by decide +kernel
theorem g111_116 : tg 116 (25) = 141 := by decide
theorem i111_119 : ins 111 119 = some (.aload_n 1, 0, 0, 0, 0) := by decide +kernel
theorem i111_120 : ins 111 120 = some (.bipush 59, 0, 0, 0, 0) := by decide +kernel
theorem i111_122 : ins 111 122 = some (.invokevirtual 80, 119, 189, 0, 0) := by decide +kernel
theorem i111_125 : ins 111 125 = some (.aload_n 0, 0, 0, 0, 0) := by decide +kernel
theorem i111_126 : ins 111 126 = some (.iload_n 2, 0, 0, 0, 0) := by decide +kernel
theorem i111_127 : ins 111 127 = some (.iconst 1, 0, 0, 0, 0) := by decide +kernel
theorem i111_128 : ins 111 128 = some (.invokevirtual 109, 128, 67, 0, 0) := by decide +kernel
theorem i111_131 : ins 111 131 = some (.invokevirtual 97, 124, 190, 0, 0) := by decide +kernel
theorem i111_134 : ins 111 134 = some (.pop, 0, 0, 0, 0) := by decide +kernel
theorem i111_135 : ins 111 135 = some (.iinc 2 1, 0, 0, 0, 0) := by decide +kernel
theorem i111_138 : ins 111 138 = some (.goto (-25), 0, 0, 0, 0) := by decide +kernel
theorem g111_138 : tg 138 (-25) = 113 := by decide
theorem i111_141 : ins 111 141 = some (.aload_n 1, 0, 0, 0, 0) := by decide +kernel
theorem i111_142 : ins 111 142 = some (.invokevirtual 83, 120, 135, 0, 0) := by decide +kernel
theorem i111_145 : ins 111 145 = some (.areturn, 0, 0, 0, 0) := by decide +kernel
theorem c112 : 112 < mnames ∧ nA 112 = 1 ∧ nS 112 = 1 := by decide +kernel
theorem m112 : (112 ≠ ensK ∧ 112 < mnames) ∧ nA 112 = 1 ∧ nL 112 = 2 := by decide +kernel
theorem r112 : nR 112 = (some .int) := by decide +kernel
theorem i112_0 : ins 112 0 = some (.aload_n 0, 0, 0, 0, 0) := by decide +kernel
theorem i112_1 : ins 112 1 = some (.iconst 0, 0, 0, 0, 0) := by decide +kernel
theorem i112_2 : ins 112 2 = some (.bipush 20, 0, 0, 0, 0) := by decide +kernel
theorem i112_4 : ins 112 4 = some (.iconst 3, 0, 0, 0, 0) := by decide +kernel
theorem i112_5 : ins 112 5 = some (.invokevirtual 43, 107, 54, 0, 0) := by decide +kernel
theorem i112_8 : ins 112 8 = some (.aload_n 0, 0, 0, 0, 0) := by decide +kernel
theorem i112_9 : ins 112 9 = some (.iconst 0, 0, 0, 0, 0) := by decide +kernel
theorem i112_10 : ins 112 10 = some (.bipush 9, 0, 0, 0, 0) := by decide +kernel
theorem i112_12 : ins 112 12 = some (.iconst 2, 0, 0, 0, 0) := by decide +kernel
theorem i112_13 : ins 112 13 = some (.invokevirtual 43, 107, 54, 0, 0) := by decide +kernel
theorem i112_16 : ins 112 16 = some (.iadd, 0, 0, 0, 0) := by decide +kernel
theorem i112_17 : ins 112 17 = some (.aload_n 0, 0, 0, 0, 0) := by decide +kernel
theorem i112_18 : ins 112 18 = some (.iconst 1, 0, 0, 0, 0) := by decide +kernel
theorem i112_19 : ins 112 19 = some (.bipush 30, 0, 0, 0, 0) := by decide +kernel
theorem i112_21 : ins 112 21 = some (.iconst 5, 0, 0, 0, 0) := by decide +kernel
theorem i112_22 : ins 112 22 = some (.invokevirtual 43, 107, 54, 0, 0) := by decide +kernel
theorem i112_25 : ins 112 25 = some (.iadd, 0, 0, 0, 0) := by decide +kernel
theorem i112_26 : ins 112 26 = some (.aload_n 0, 0, 0, 0, 0) := by decide +kernel
theorem i112_27 : ins 112 27 = some (.iconst 2, 0, 0, 0, 0) := by decide +kernel
theorem i112_28 : ins 112 28 = some (.bipush 12, 0, 0, 0, 0) := by decide +kernel
theorem i112_30 : ins 112 30 = some (.iconst 1, 0, 0, 0, 0) := by decide +kernel
theorem i112_31 : ins 112 31 = some (.invokevirtual 43, 107, 54, 0, 0) := by decide +kernel
theorem i112_34 : ins 112 34 = some (.iadd, 0, 0, 0, 0) := by decide +kernel
theorem i112_35 : ins 112 35 = some (.aload_n 0, 0, 0, 0, 0) := by decide +kernel
theorem i112_36 : ins 112 36 = some (.iconst 1, 0, 0, 0, 0) := by decide +kernel
theorem i112_37 : ins 112 37 = some (.bipush 6, 0, 0, 0, 0) := by decide +kernel
theorem i112_39 : ins 112 39 = some (.bipush 9, 0, 0, 0, 0) := by decide +kernel
theorem i112_41 : ins 112 41 = some (.invokevirtual 43, 107, 54, 0, 0) := by decide +kernel
theorem i112_44 : ins 112 44 = some (.iadd, 0, 0, 0, 0) := by decide +kernel
theorem i112_45 : ins 112 45 = some (.istore_n 1, 0, 0, 0, 0) := by decide +kernel
theorem i112_46 : ins 112 46 = some (.iload_n 1, 0, 0, 0, 0) := by decide +kernel
theorem i112_47 : ins 112 47 = some (.aload_n 0, 0, 0, 0, 0) := by decide +kernel
theorem i112_48 : ins 112 48 = some (.iconst 0, 0, 0, 0, 0) := by decide +kernel
theorem i112_49 : ins 112 49 = some (.iconst 1, 0, 0, 0, 0) := by decide +kernel
theorem i112_50 : ins 112 50 = some (.bipush 40, 0, 0, 0, 0) := by decide +kernel
theorem i112_52 : ins 112 52 = some (.invokevirtual 50, 109, 56, 0, 0) := by decide +kernel
theorem i112_55 : ins 112 55 = some (.aload_n 0, 0, 0, 0, 0) := by decide +kernel
theorem i112_56 : ins 112 56 = some (.iconst 2, 0, 0, 0, 0) := by decide +kernel
theorem i112_57 : ins 112 57 = some (.iconst 0, 0, 0, 0, 0) := by decide +kernel
theorem i112_58 : ins 112 58 = some (.bipush 7, 0, 0, 0, 0) := by decide +kernel
theorem i112_60 : ins 112 60 = some (.invokevirtual 50, 109, 56, 0, 0) := by decide +kernel
theorem i112_63 : ins 112 63 = some (.iadd, 0, 0, 0, 0) := by decide +kernel
theorem i112_64 : ins 112 64 = some (.aload_n 0, 0, 0, 0, 0) := by decide +kernel
theorem i112_65 : ins 112 65 = some (.iconst 3, 0, 0, 0, 0) := by decide +kernel
theorem i112_66 : ins 112 66 = some (.iconst 1, 0, 0, 0, 0) := by decide +kernel
theorem i112_67 : ins 112 67 = some (.iconst 5, 0, 0, 0, 0) := by decide +kernel
theorem i112_68 : ins 112 68 = some (.invokevirtual 50, 109, 56, 0, 0) := by decide +kernel
theorem i112_71 : ins 112 71 = some (.iadd, 0, 0, 0, 0) := by decide +kernel
theorem i112_72 : ins 112 72 = some (.aload_n 0, 0, 0, 0, 0) := by decide +kernel
theorem i112_73 : ins 112 73 = some (.iconst 2, 0, 0, 0, 0) := by decide +kernel
theorem i112_74 : ins 112 74 = some (.iconst 1, 0, 0, 0, 0) := by decide +kernel
theorem i112_75 : ins 112 75 = some (.iconst 4, 0, 0, 0, 0) := by decide +kernel
theorem i112_76 : ins 112 76 = some (.invokevirtual 53, 110, 57, 0, 0) := by decide +kernel
theorem i112_79 : ins 112 79 = some (.iadd, 0, 0, 0, 0) := by decide +kernel
theorem i112_80 : ins 112 80 = some (.aload_n 0, 0, 0, 0, 0) := by decide +kernel
theorem i112_81 : ins 112 81 = some (.iconst 2, 0, 0, 0, 0) := by decide +kernel
theorem i112_82 : ins 112 82 = some (.bipush 11, 0, 0, 0, 0) := by decide +kernel
theorem i112_84 : ins 112 84 = some (.invokevirtual 56, 111, 59, 0, 0) := by decide +kernel
theorem i112_87 : ins 112 87 = some (.iadd, 0, 0, 0, 0) := by decide +kernel
theorem i112_88 : ins 112 88 = some (.aload_n 0, 0, 0, 0, 0) := by decide +kernel
theorem i112_89 : ins 112 89 = some (.iconst 3, 0, 0, 0, 0) := by decide +kernel
theorem i112_90 : ins 112 90 = some (.iconst 2, 0, 0, 0, 0) := by decide +kernel
theorem i112_91 : ins 112 91 = some (.invokevirtual 56, 111, 59, 0, 0) := by decide +kernel
theorem i112_94 : ins 112 94 = some (.iadd, 0, 0, 0, 0) := by decide +kernel
theorem i112_95 : ins 112 95 = some (.iadd, 0, 0, 0, 0) := by decide +kernel
theorem i112_96 : ins 112 96 = some (.istore_n 1, 0, 0, 0, 0) := by decide +kernel
theorem i112_97 : ins 112 97 = some (.iload_n 1, 0, 0, 0, 0) := by decide +kernel
theorem i112_98 : ins 112 98 = some (.aload_n 0, 0, 0, 0, 0) := by decide +kernel
theorem i112_99 : ins 112 99 = some (.iconst 0, 0, 0, 0, 0) := by decide +kernel
theorem i112_100 : ins 112 100 = some (.iconst 4, 0, 0, 0, 0) := by decide +kernel
theorem i112_101 : ins 112 101 = some (.invokevirtual 47, 108, 55, 0, 0) := by decide +kernel
theorem i112_104 : ins 112 104 = some (.iadd, 0, 0, 0, 0) := by decide +kernel
theorem i112_105 : ins 112 105 = some (.aload_n 0, 0, 0, 0, 0) := by decide +kernel
theorem i112_106 : ins 112 106 = some (.invokevirtual 59, 112, 60, 0, 0) := by decide +kernel
theorem i112_109 : ins 112 109 = some (.iadd, 0, 0, 0, 0) := by decide +kernel
theorem i112_110 : ins 112 110 = some (.aload_n 0, 0, 0, 0, 0) := by decide +kernel
theorem i112_111 : ins 112 111 = some (.iconst 2, 0, 0, 0, 0) := by decide +kernel
theorem i112_112 : ins 112 112 = some (.invokevirtual 71, 116, 66, 0, 0) := by decide +kernel
theorem i112_115 : ins 112 115 = some (.iadd, 0, 0, 0, 0) := by decide +kernel
theorem i112_116 : ins 112 116 = some (.aload_n 0, 0, 0, 0, 0) := by decide +kernel
theorem i112_117 : ins 112 117 = some (.iconst 4, 0, 0, 0, 0) := by decide +kernel
theorem i112_118 : ins 112 118 = some (.iconst 2, 0, 0, 0, 0) := by decide +kernel
theorem i112_119 : ins 112 119 = some (.invokevirtual 65, 114, 64, 0, 0) := by decide +kernel
theorem i112_122 : ins 112 122 = some (.iadd, 0, 0, 0, 0) := by decide +kernel
theorem i112_123 : ins 112 123 = some (.aload_n 0, 0, 0, 0, 0) := by decide +kernel
theorem i112_124 : ins 112 124 = some (.iconst 4, 0, 0, 0, 0) := by decide +kernel
theorem i112_125 : ins 112 125 = some (.iconst 3, 0, 0, 0, 0) := by decide +kernel
theorem i112_126 : ins 112 126 = some (.invokevirtual 56, 111, 59, 0, 0) := by decide +kernel
theorem i112_129 : ins 112 129 = some (.iadd, 0, 0, 0, 0) := by decide +kernel
theorem i112_130 : ins 112 130 = some (.ireturn, 0, 0, 0, 0) := by decide +kernel
theorem c113 : 113 < mnames ∧ nA 113 = 1 ∧ nS 113 = 1 := by decide +kernel
theorem m113 : (113 ≠ ensK ∧ 113 < mnames) ∧ nA 113 = 1 ∧ nL 113 = 12 := by decide +kernel
theorem r113 : nR 113 = (some .boolean) := by decide +kernel
theorem i113_0 : ins 113 0 = some (.aload_n 0, 0, 0, 0, 0) := by decide +kernel
theorem i113_1 : ins 113 1 = some (.iconst 0, 0, 0, 0, 0) := by decide +kernel
theorem i113_2 : ins 113 2 = some (.invokevirtual 40, 106, 80, 0, 0) := by decide +kernel
theorem i113_5 : ins 113 5 = some (.istore_n 1, 0, 0, 0, 0) := by decide +kernel
theorem i113_6 : ins 113 6 = some (.iconst 3, 0, 0, 0, 0) := by decide +kernel
theorem i113_7 : ins 113 7 = some (.newarray .int, 0, 0, 0, 0) := by decide +kernel
theorem i113_9 : ins 113 9 = some (.astore_n 2, 0, 0, 0, 0) := by decide +kernel
theorem i113_10 : ins 113 10 = some (.iconst (-1), 0, 0, 0, 0) := by decide +kernel
theorem i113_11 : ins 113 11 = some (.istore_n 3, 0, 0, 0, 0) := by decide +kernel
theorem i113_12 : ins 113 12 = some (.iconst 0, 0, 0, 0, 0) := by decide +kernel
theorem i113_13 : ins 113 13 = some (.istore 4, 0, 0, 0, 0) := by decide +kernel
theorem i113_15 : ins 113 15 = some (.iload 4, 0, 0, 0, 0) := by decide +kernel
theorem i113_17 : ins 113 17 = some (.iload_n 1, 0, 0, 0, 0) := by decide +kernel
theorem i113_18 : ins 113 18 = some (.if_icmp .ge 479, 0, 0, 0, 0) := by decide +kernel
theorem g113_18 : tg 18 (479) = 497 := by decide
theorem i113_21 : ins 113 21 = some (.aload_n 0, 0, 0, 0, 0) := by decide +kernel
theorem i113_22 : ins 113 22 = some (.iload 4, 0, 0, 0, 0) := by decide +kernel
theorem i113_24 : ins 113 24 = some (.iconst 0, 0, 0, 0, 0) := by decide +kernel
theorem i113_25 : ins 113 25 = some (.invokevirtual 106, 127, 58, 0, 0) := by decide +kernel
theorem i113_28 : ins 113 28 = some (.istore 5, 0, 0, 0, 0) := by decide +kernel
theorem i113_30 : ins 113 30 = some (.aload_n 0, 0, 0, 0, 0) := by decide +kernel
theorem i113_31 : ins 113 31 = some (.iload 4, 0, 0, 0, 0) := by decide +kernel
theorem i113_33 : ins 113 33 = some (.iconst 3, 0, 0, 0, 0) := by decide +kernel
theorem i113_34 : ins 113 34 = some (.invokevirtual 106, 127, 58, 0, 0) := by decide +kernel
theorem i113_37 : ins 113 37 = some (.istore 6, 0, 0, 0, 0) := by decide +kernel
theorem i113_39 : ins 113 39 = some (.aload_n 0, 0, 0, 0, 0) := by decide +kernel
theorem i113_40 : ins 113 40 = some (.iload 4, 0, 0, 0, 0) := by decide +kernel
theorem i113_42 : ins 113 42 = some (.bipush 6, 0, 0, 0, 0) := by decide +kernel
theorem i113_44 : ins 113 44 = some (.invokevirtual 106, 127, 58, 0, 0) := by decide +kernel
theorem i113_47 : ins 113 47 = some (.istore 7, 0, 0, 0, 0) := by decide +kernel
theorem i113_49 : ins 113 49 = some (.new 74, 0, 0, 0, 0) := by decide +kernel
theorem i113_52 : ins 113 52 = some (.dup, 0, 0, 0, 0) := by decide +kernel
theorem i113_53 : ins 113 53 = some (.invokespecial 76, 117, 122, 4, 0) := by decide +kernel
theorem i113_56 : ins 113 56 = some (.iload 4, 0, 0, 0, 0) := by decide +kernel
theorem i113_58 : ins 113 58 = some (.invokevirtual 97, 124, 190, 0, 0) := by decide +kernel
theorem i113_61 : ins 113 61 = some (.ldc 112, 10, 1, 10, 0) := by decide +kernel
theorem i113_63 : ins 113 63 = some (.invokevirtual 103, 126, 126, 0, 0) := by decide +kernel
theorem i113_66 : ins 113 66 = some (.iload 5, 0, 0, 0, 0) := by decide +kernel
theorem i113_68 : ins 113 68 = some (.invokevirtual 97, 124, 190, 0, 0) := by decide +kernel
theorem i113_71 : ins 113 71 = some (.ldc 114, 11, 1, 11, 0) := by decide +kernel
theorem i113_73 : ins 113 73 = some (.invokevirtual 103, 126, 126, 0, 0) := by decide +kernel
theorem i113_76 : ins 113 76 = some (.aload_n 0, 0, 0, 0, 0) := by decide +kernel
theorem i113_77 : ins 113 77 = some (.iload 4, 0, 0, 0, 0) := by decide +kernel
theorem i113_79 : ins 113 79 = some (.iconst 1, 0, 0, 0, 0) := by decide +kernel
theorem i113_80 : ins 113 80 = some (.invokevirtual 106, 127, 58, 0, 0) := by decide +kernel
theorem i113_83 : ins 113 83 = some (.invokevirtual 97, 124, 190, 0, 0) := by decide +kernel
theorem i113_86 : ins 113 86 = some (.ldc 116, 12, 1, 12, 0) := by decide +kernel
theorem i113_88 : ins 113 88 = some (.invokevirtual 103, 126, 126, 0, 0) := by decide +kernel
theorem i113_91 : ins 113 91 = some (.aload_n 0, 0, 0, 0, 0) := by decide +kernel
theorem i113_92 : ins 113 92 = some (.iload 4, 0, 0, 0, 0) := by decide +kernel
theorem i113_94 : ins 113 94 = some (.iconst 2, 0, 0, 0, 0) := by decide +kernel
theorem i113_95 : ins 113 95 = some (.invokevirtual 106, 127, 58, 0, 0) := by decide +kernel
theorem i113_98 : ins 113 98 = some (.invokevirtual 97, 124, 190, 0, 0) := by decide +kernel
theorem i113_101 : ins 113 101 = some (.iload 6, 0, 0, 0, 0) := by decide +kernel
theorem i113_103 : ins 113 103 = some (.ifCond .lt 41, 0, 0, 0, 0) := by decide +kernel
theorem g113_103 : tg 103 (41) = 144 := by decide
theorem i113_106 : ins 113 106 = some (.new 74, 0, 0, 0, 0) := by decide +kernel
theorem i113_109 : ins 113 109 = some (.dup, 0, 0, 0, 0) := by decide +kernel
theorem i113_110 : ins 113 110 = some (.invokespecial 76, 117, 122, 4, 0) := by decide +kernel
theorem i113_113 : ins 113 113 = some (.ldc 118, 13, 1, 13, 0) := by decide +kernel
theorem i113_115 : ins 113 115 = some (.invokevirtual 103, 126, 126, 0, 0) := by decide +kernel
theorem i113_118 : ins 113 118 = some (.iload 6, 0, 0, 0, 0) := by decide +kernel
theorem i113_120 : ins 113 120 = some (.invokevirtual 97, 124, 190, 0, 0) := by decide +kernel
theorem i113_123 : ins 113 123 = some (.ldc 120, 14, 1, 14, 0) := by decide +kernel
theorem i113_125 : ins 113 125 = some (.invokevirtual 103, 126, 126, 0, 0) := by decide +kernel
theorem i113_128 : ins 113 128 = some (.aload_n 0, 0, 0, 0, 0) := by decide +kernel
theorem i113_129 : ins 113 129 = some (.iload 4, 0, 0, 0, 0) := by decide +kernel
theorem i113_131 : ins 113 131 = some (.iconst 4, 0, 0, 0, 0) := by decide +kernel
theorem i113_132 : ins 113 132 = some (.invokevirtual 106, 127, 58, 0, 0) := by decide +kernel
theorem i113_135 : ins 113 135 = some (.invokevirtual 97, 124, 190, 0, 0) := by decide +kernel
theorem i113_138 : ins 113 138 = some (.invokevirtual 83, 120, 135, 0, 0) := by decide +kernel
theorem i113_141 : ins 113 141 = some (.goto 5, 0, 0, 0, 0) := by decide +kernel
theorem g113_141 : tg 141 (5) = 146 := by decide
theorem i113_144 : ins 113 144 = some (.ldc 122, 15, 1, 9, 0) := by decide +kernel
theorem i113_146 : ins 113 146 = some (.invokevirtual 103, 126, 126, 0, 0) := by decide +kernel
theorem i113_149 : ins 113 149 = some (.iload 7, 0, 0, 0, 0) := by decide +kernel
theorem i113_151 : ins 113 151 = some (.ifCond .lt 31, 0, 0, 0, 0) := by decide +kernel
theorem g113_151 : tg 151 (31) = 182 := by decide
theorem i113_154 : ins 113 154 = some (.new 74, 0, 0, 0, 0) := by decide +kernel
theorem i113_157 : ins 113 157 = some (.dup, 0, 0, 0, 0) := by decide +kernel
theorem i113_158 : ins 113 158 = some (.invokespecial 76, 117, 122, 4, 0) := by decide +kernel
theorem i113_161 : ins 113 161 = some (.ldc 124, 16, 1, 15, 0) := by decide +kernel
theorem i113_163 : ins 113 163 = some (.invokevirtual 103, 126, 126, 0, 0) := by decide +kernel
theorem i113_166 : ins 113 166 = some (.aload_n 0, 0, 0, 0, 0) := by decide +kernel
theorem i113_167 : ins 113 167 = some (.iload 4, 0, 0, 0, 0) := by decide +kernel
theorem i113_169 : ins 113 169 = some (.iconst 5, 0, 0, 0, 0) := by decide +kernel
theorem i113_170 : ins 113 170 = some (.invokevirtual 106, 127, 58, 0, 0) := by decide +kernel
theorem i113_173 : ins 113 173 = some (.invokevirtual 97, 124, 190, 0, 0) := by decide +kernel
theorem i113_176 : ins 113 176 = some (.invokevirtual 83, 120, 135, 0, 0) := by decide +kernel
theorem i113_179 : ins 113 179 = some (.goto 5, 0, 0, 0, 0) := by decide +kernel
theorem g113_179 : tg 179 (5) = 184 := by decide
theorem i113_182 : ins 113 182 = some (.ldc 122, 15, 1, 9, 0) := by decide +kernel
theorem i113_184 : ins 113 184 = some (.invokevirtual 103, 126, 126, 0, 0) := by decide +kernel
theorem i113_187 : ins 113 187 = some (.invokevirtual 83, 120, 135, 0, 0) := by decide +kernel
theorem i113_190 : ins 113 190 = some (.astore 8, 0, 0, 0, 0) := by decide +kernel
theorem i113_192 : ins 113 192 = some (.aload_n 0, 0, 0, 0, 0) := by decide +kernel
theorem i113_193 : ins 113 193 = some (.iload 5, 0, 0, 0, 0) := by decide +kernel
theorem i113_195 : ins 113 195 = some (.iconst 0, 0, 0, 0, 0) := by decide +kernel
theorem i113_196 : ins 113 196 = some (.invokevirtual 109, 128, 67, 0, 0) := by decide +kernel
theorem i113_199 : ins 113 199 = some (.iconst 1, 0, 0, 0, 0) := by decide +kernel
theorem i113_200 : ins 113 200 = some (.if_icmp .ne 87, 0, 0, 0, 0) := by decide +kernel
theorem g113_200 : tg 200 (87) = 287 := by decide
theorem i113_203 : ins 113 203 = some (.iload 6, 0, 0, 0, 0) := by decide +kernel
theorem i113_205 : ins 113 205 = some (.iload 5, 0, 0, 0, 0) := by decide +kernel
theorem i113_207 : ins 113 207 = some (.if_icmp .eq 80, 0, 0, 0, 0) := by decide +kernel
theorem g113_207 : tg 207 (80) = 287 := by decide
theorem i113_210 : ins 113 210 = some (.iload 7, 0, 0, 0, 0) := by decide +kernel
theorem i113_212 : ins 113 212 = some (.iload 5, 0, 0, 0, 0) := by decide +kernel
theorem i113_214 : ins 113 214 = some (.if_icmp .eq 73, 0, 0, 0, 0) := by decide +kernel
theorem g113_214 : tg 214 (73) = 287 := by decide
theorem i113_217 : ins 113 217 = some (.iload 6, 0, 0, 0, 0) := by decide +kernel
theorem i113_219 : ins 113 219 = some (.ifCond .lt 7, 0, 0, 0, 0) := by decide +kernel
theorem g113_219 : tg 219 (7) = 226 := by decide
theorem i113_222 : ins 113 222 = some (.iconst 1, 0, 0, 0, 0) := by decide +kernel
theorem i113_223 : ins 113 223 = some (.goto 4, 0, 0, 0, 0) := by decide +kernel
theorem g113_223 : tg 223 (4) = 227 := by decide
theorem i113_226 : ins 113 226 = some (.iconst 0, 0, 0, 0, 0) := by decide +kernel
theorem i113_227 : ins 113 227 = some (.aload_n 0, 0, 0, 0, 0) := by decide +kernel
theorem i113_228 : ins 113 228 = some (.iload 4, 0, 0, 0, 0) := by decide +kernel
theorem i113_230 : ins 113 230 = some (.iconst 4, 0, 0, 0, 0) := by decide +kernel
theorem i113_231 : ins 113 231 = some (.invokevirtual 106, 127, 58, 0, 0) := by decide +kernel
theorem i113_234 : ins 113 234 = some (.ifCond .le 7, 0, 0, 0, 0) := by decide +kernel
theorem g113_234 : tg 234 (7) = 241 := by decide
theorem i113_237 : ins 113 237 = some (.iconst 1, 0, 0, 0, 0) := by decide +kernel
theorem i113_238 : ins 113 238 = some (.goto 4, 0, 0, 0, 0) := by decide +kernel
theorem g113_238 : tg 238 (4) = 242 := by decide
theorem i113_241 : ins 113 241 = some (.iconst 0, 0, 0, 0, 0) := by decide +kernel
theorem i113_242 : ins 113 242 = some (.if_icmp .ne 45, 0, 0, 0, 0) := by decide +kernel
theorem g113_242 : tg 242 (45) = 287 := by decide
theorem i113_245 : ins 113 245 = some (.iload 7, 0, 0, 0, 0) := by decide +kernel
theorem i113_247 : ins 113 247 = some (.ifCond .lt 7, 0, 0, 0, 0) := by decide +kernel
theorem g113_247 : tg 247 (7) = 254 := by decide
theorem i113_250 : ins 113 250 = some (.iconst 1, 0, 0, 0, 0) := by decide +kernel
theorem i113_251 : ins 113 251 = some (.goto 4, 0, 0, 0, 0) := by decide +kernel
theorem g113_251 : tg 251 (4) = 255 := by decide
theorem i113_254 : ins 113 254 = some (.iconst 0, 0, 0, 0, 0) := by decide +kernel
theorem i113_255 : ins 113 255 = some (.aload_n 0, 0, 0, 0, 0) := by decide +kernel
theorem i113_256 : ins 113 256 = some (.iload 4, 0, 0, 0, 0) := by decide +kernel
theorem i113_258 : ins 113 258 = some (.iconst 5, 0, 0, 0, 0) := by decide +kernel
theorem i113_259 : ins 113 259 = some (.invokevirtual 106, 127, 58, 0, 0) := by decide +kernel
theorem i113_262 : ins 113 262 = some (.ifCond .le 7, 0, 0, 0, 0) := by decide +kernel
theorem g113_262 : tg 262 (7) = 269 := by decide
theorem i113_265 : ins 113 265 = some (.iconst 1, 0, 0, 0, 0) := by decide +kernel
theorem i113_266 : ins 113 266 = some (.goto 4, 0, 0, 0, 0) := by decide +kernel
theorem g113_266 : tg 266 (4) = 270 := by decide
theorem i113_269 : ins 113 269 = some (.iconst 0, 0, 0, 0, 0) := by decide +kernel
theorem i113_270 : ins 113 270 = some (.if_icmp .ne 17, 0, 0, 0, 0) := by decide +kernel
theorem g113_270 : tg 270 (17) = 287 := by decide
theorem i113_273 : ins 113 273 = some (.aload_n 0, 0, 0, 0, 0) := by decide +kernel
theorem i113_274 : ins 113 274 = some (.iload 4, 0, 0, 0, 0) := by decide +kernel
theorem i113_276 : ins 113 276 = some (.iconst 1, 0, 0, 0, 0) := by decide +kernel
theorem i113_277 : ins 113 277 = some (.invokevirtual 106, 127, 58, 0, 0) := by decide +kernel
theorem i113_280 : ins 113 280 = some (.ifCond .le 7, 0, 0, 0, 0) := by decide +kernel
theorem g113_280 : tg 280 (7) = 287 := by decide
theorem i113_283 : ins 113 283 = some (.iconst 1, 0, 0, 0, 0) := by decide +kernel
theorem i113_284 : ins 113 284 = some (.goto 4, 0, 0, 0, 0) := by decide +kernel
theorem g113_284 : tg 284 (4) = 288 := by decide
theorem i113_287 : ins 113 287 = some (.iconst 0, 0, 0, 0, 0) := by decide +kernel
theorem i113_288 : ins 113 288 = some (.istore 9, 0, 0, 0, 0) := by decide +kernel
theorem i113_290 : ins 113 290 = some (.iload 9, 0, 0, 0, 0) := by decide +kernel
theorem i113_292 : ins 113 292 = some (.iload 6, 0, 0, 0, 0) := by decide +kernel
theorem i113_294 : ins 113 294 = some (.ifCond .lt 14, 0, 0, 0, 0) := by decide +kernel
theorem g113_294 : tg 294 (14) = 308 := by decide
theorem i113_297 : ins 113 297 = some (.aload_n 0, 0, 0, 0, 0) := by decide +kernel
theorem i113_298 : ins 113 298 = some (.iload 6, 0, 0, 0, 0) := by decide +kernel
theorem i113_300 : ins 113 300 = some (.iconst 0, 0, 0, 0, 0) := by decide +kernel
theorem i113_301 : ins 113 301 = some (.invokevirtual 109, 128, 67, 0, 0) := by decide +kernel
theorem i113_304 : ins 113 304 = some (.iconst 1, 0, 0, 0, 0) := by decide +kernel
theorem i113_305 : ins 113 305 = some (.if_icmp .ne 23, 0, 0, 0, 0) := by decide +kernel
theorem g113_305 : tg 305 (23) = 328 := by decide
theorem i113_308 : ins 113 308 = some (.iload 7, 0, 0, 0, 0) := by decide +kernel
theorem i113_310 : ins 113 310 = some (.ifCond .lt 14, 0, 0, 0, 0) := by decide +kernel
theorem g113_310 : tg 310 (14) = 324 := by decide
theorem i113_313 : ins 113 313 = some (.aload_n 0, 0, 0, 0, 0) := by decide +kernel
theorem i113_314 : ins 113 314 = some (.iload 7, 0, 0, 0, 0) := by decide +kernel
theorem i113_316 : ins 113 316 = some (.iconst 0, 0, 0, 0, 0) := by decide +kernel
theorem i113_317 : ins 113 317 = some (.invokevirtual 109, 128, 67, 0, 0) := by decide +kernel
theorem i113_320 : ins 113 320 = some (.iconst 1, 0, 0, 0, 0) := by decide +kernel
theorem i113_321 : ins 113 321 = some (.if_icmp .ne 7, 0, 0, 0, 0) := by decide +kernel
theorem g113_321 : tg 321 (7) = 328 := by decide
theorem i113_324 : ins 113 324 = some (.iconst 1, 0, 0, 0, 0) := by decide +kernel
theorem i113_325 : ins 113 325 = some (.goto 4, 0, 0, 0, 0) := by decide +kernel
theorem g113_325 : tg 325 (4) = 329 := by decide
theorem i113_328 : ins 113 328 = some (.iconst 0, 0, 0, 0, 0) := by decide +kernel
theorem i113_329 : ins 113 329 = some (.iand, 0, 0, 0, 0) := by decide +kernel
theorem i113_330 : ins 113 330 = some (.istore 9, 0, 0, 0, 0) := by decide +kernel
theorem i113_332 : ins 113 332 = some (.aload_n 0, 0, 0, 0, 0) := by decide +kernel
theorem i113_333 : ins 113 333 = some (.iload 4, 0, 0, 0, 0) := by decide +kernel
theorem i113_335 : ins 113 335 = some (.invokevirtual 126, 129, 73, 0, 0) := by decide +kernel
theorem i113_338 : ins 113 338 = some (.istore 10, 0, 0, 0, 0) := by decide +kernel
theorem i113_340 : ins 113 340 = some (.iload_n 3, 0, 0, 0, 0) := by decide +kernel
theorem i113_341 : ins 113 341 = some (.ifCond .ge 7, 0, 0, 0, 0) := by decide +kernel
theorem g113_341 : tg 341 (7) = 348 := by decide
theorem i113_344 : ins 113 344 = some (.iconst 1, 0, 0, 0, 0) := by decide +kernel
theorem i113_345 : ins 113 345 = some (.goto 32, 0, 0, 0, 0) := by decide +kernel
theorem g113_345 : tg 345 (32) = 377 := by decide
theorem i113_348 : ins 113 348 = some (.aload_n 0, 0, 0, 0, 0) := by decide +kernel
theorem i113_349 : ins 113 349 = some (.iload_n 3, 0, 0, 0, 0) := by decide +kernel
theorem i113_350 : ins 113 350 = some (.iconst 1, 0, 0, 0, 0) := by decide +kernel
theorem i113_351 : ins 113 351 = some (.invokevirtual 106, 127, 58, 0, 0) := by decide +kernel
theorem i113_354 : ins 113 354 = some (.aload_n 0, 0, 0, 0, 0) := by decide +kernel
theorem i113_355 : ins 113 355 = some (.iload_n 3, 0, 0, 0, 0) := by decide +kernel
theorem i113_356 : ins 113 356 = some (.iconst 2, 0, 0, 0, 0) := by decide +kernel
theorem i113_357 : ins 113 357 = some (.invokevirtual 106, 127, 58, 0, 0) := by decide +kernel
theorem i113_360 : ins 113 360 = some (.imul, 0, 0, 0, 0) := by decide +kernel
theorem i113_361 : ins 113 361 = some (.aload_n 0, 0, 0, 0, 0) := by decide +kernel
theorem i113_362 : ins 113 362 = some (.iload 10, 0, 0, 0, 0) := by decide +kernel
theorem i113_364 : ins 113 364 = some (.iconst 1, 0, 0, 0, 0) := by decide +kernel
theorem i113_365 : ins 113 365 = some (.invokevirtual 106, 127, 58, 0, 0) := by decide +kernel
theorem i113_368 : ins 113 368 = some (.aload_n 0, 0, 0, 0, 0) := by decide +kernel
theorem i113_369 : ins 113 369 = some (.iload 10, 0, 0, 0, 0) := by decide +kernel
theorem i113_371 : ins 113 371 = some (.iconst 2, 0, 0, 0, 0) := by decide +kernel
theorem i113_372 : ins 113 372 = some (.invokevirtual 106, 127, 58, 0, 0) := by decide +kernel
theorem i113_375 : ins 113 375 = some (.imul, 0, 0, 0, 0) := by decide +kernel
theorem i113_376 : ins 113 376 = some (.isub, 0, 0, 0, 0) := by decide +kernel
theorem i113_377 : ins 113 377 = some (.istore 11, 0, 0, 0, 0) := by decide +kernel
theorem i113_379 : ins 113 379 = some (.iload 11, 0, 0, 0, 0) := by decide +kernel
theorem i113_381 : ins 113 381 = some (.ifCond .eq 8, 0, 0, 0, 0) := by decide +kernel
theorem g113_381 : tg 381 (8) = 389 := by decide
theorem i113_384 : ins 113 384 = some (.iload 11, 0, 0, 0, 0) := by decide +kernel
theorem i113_386 : ins 113 386 = some (.goto 17, 0, 0, 0, 0) := by decide +kernel
theorem g113_386 : tg 386 (17) = 403 := by decide
theorem i113_389 : ins 113 389 = some (.aload_n 0, 0, 0, 0, 0) := by decide +kernel
theorem i113_390 : ins 113 390 = some (.iload 10, 0, 0, 0, 0) := by decide +kernel
theorem i113_392 : ins 113 392 = some (.iconst 4, 0, 0, 0, 0) := by decide +kernel
theorem i113_393 : ins 113 393 = some (.invokevirtual 106, 127, 58, 0, 0) := by decide +kernel
theorem i113_396 : ins 113 396 = some (.aload_n 0, 0, 0, 0, 0) := by decide +kernel
theorem i113_397 : ins 113 397 = some (.iload_n 3, 0, 0, 0, 0) := by decide +kernel
theorem i113_398 : ins 113 398 = some (.iconst 4, 0, 0, 0, 0) := by decide +kernel
theorem i113_399 : ins 113 399 = some (.invokevirtual 106, 127, 58, 0, 0) := by decide +kernel
theorem i113_402 : ins 113 402 = some (.isub, 0, 0, 0, 0) := by decide +kernel
theorem i113_403 : ins 113 403 = some (.istore 11, 0, 0, 0, 0) := by decide +kernel
theorem i113_405 : ins 113 405 = some (.aload_n 2, 0, 0, 0, 0) := by decide +kernel
theorem i113_406 : ins 113 406 = some (.iconst 0, 0, 0, 0, 0) := by decide +kernel
theorem i113_407 : ins 113 407 = some (.dup2, 0, 0, 0, 0) := by decide +kernel
theorem i113_408 : ins 113 408 = some (.iaload, 0, 0, 0, 0) := by decide +kernel
theorem i113_409 : ins 113 409 = some (.aload_n 0, 0, 0, 0, 0) := by decide +kernel
theorem i113_410 : ins 113 410 = some (.iload 4, 0, 0, 0, 0) := by decide +kernel
theorem i113_412 : ins 113 412 = some (.iconst 1, 0, 0, 0, 0) := by decide +kernel
theorem i113_413 : ins 113 413 = some (.invokevirtual 106, 127, 58, 0, 0) := by decide +kernel
theorem i113_416 : ins 113 416 = some (.iadd, 0, 0, 0, 0) := by decide +kernel
theorem i113_417 : ins 113 417 = some (.iastore, 0, 0, 0, 0) := by decide +kernel
theorem i113_418 : ins 113 418 = some (.aload_n 2, 0, 0, 0, 0) := by decide +kernel
theorem i113_419 : ins 113 419 = some (.iconst 1, 0, 0, 0, 0) := by decide +kernel
theorem i113_420 : ins 113 420 = some (.dup2, 0, 0, 0, 0) := by decide +kernel
theorem i113_421 : ins 113 421 = some (.iaload, 0, 0, 0, 0) := by decide +kernel
theorem i113_422 : ins 113 422 = some (.aload_n 0, 0, 0, 0, 0) := by decide +kernel
theorem i113_423 : ins 113 423 = some (.iload 4, 0, 0, 0, 0) := by decide +kernel
theorem i113_425 : ins 113 425 = some (.iconst 4, 0, 0, 0, 0) := by decide +kernel
theorem i113_426 : ins 113 426 = some (.invokevirtual 106, 127, 58, 0, 0) := by decide +kernel
theorem i113_429 : ins 113 429 = some (.iadd, 0, 0, 0, 0) := by decide +kernel
theorem i113_430 : ins 113 430 = some (.iastore, 0, 0, 0, 0) := by decide +kernel
theorem i113_431 : ins 113 431 = some (.aload_n 2, 0, 0, 0, 0) := by decide +kernel
theorem i113_432 : ins 113 432 = some (.iconst 2, 0, 0, 0, 0) := by decide +kernel
theorem i113_433 : ins 113 433 = some (.dup2, 0, 0, 0, 0) := by decide +kernel
theorem i113_434 : ins 113 434 = some (.iaload, 0, 0, 0, 0) := by decide +kernel
theorem i113_435 : ins 113 435 = some (.iload 7, 0, 0, 0, 0) := by decide +kernel
theorem i113_437 : ins 113 437 = some (.ifCond .lt 7, 0, 0, 0, 0) := by decide +kernel
theorem g113_437 : tg 437 (7) = 444 := by decide
theorem i113_440 : ins 113 440 = some (.iconst 1, 0, 0, 0, 0) := by decide +kernel
theorem i113_441 : ins 113 441 = some (.goto 4, 0, 0, 0, 0) := by decide +kernel
theorem g113_441 : tg 441 (4) = 445 := by decide
theorem i113_444 : ins 113 444 = some (.iconst 0, 0, 0, 0, 0) := by decide +kernel
theorem i113_445 : ins 113 445 = some (.iadd, 0, 0, 0, 0) := by decide +kernel
theorem i113_446 : ins 113 446 = some (.iastore, 0, 0, 0, 0) := by decide +kernel
theorem i113_447 : ins 113 447 = some (.iload 9, 0, 0, 0, 0) := by decide +kernel
theorem i113_449 : ins 113 449 = some (.ifCond .eq 37, 0, 0, 0, 0) := by decide +kernel
theorem g113_449 : tg 449 (37) = 486 := by decide
theorem i113_452 : ins 113 452 = some (.iload 11, 0, 0, 0, 0) := by decide +kernel
theorem i113_454 : ins 113 454 = some (.ifCond .lt 32, 0, 0, 0, 0) := by decide +kernel
theorem g113_454 : tg 454 (32) = 486 := by decide
theorem i113_457 : ins 113 457 = some (.iload 11, 0, 0, 0, 0) := by decide +kernel
theorem i113_459 : ins 113 459 = some (.ifCond .ne 9, 0, 0, 0, 0) := by decide +kernel
theorem g113_459 : tg 459 (9) = 468 := by decide
theorem i113_462 : ins 113 462 = some (.iload 10, 0, 0, 0, 0) := by decide +kernel
theorem i113_464 : ins 113 464 = some (.iload_n 3, 0, 0, 0, 0) := by decide +kernel
theorem i113_465 : ins 113 465 = some (.if_icmp .lt 21, 0, 0, 0, 0) := by decide +kernel
theorem g113_465 : tg 465 (21) = 486 := by decide
theorem i113_468 : ins 113 468 = some (.aload_n 0, 0, 0, 0, 0) := by decide +kernel
theorem i113_469 : ins 113 469 = some (.aload_n 0, 0, 0, 0, 0) := by decide +kernel
theorem i113_470 : ins 113 470 = some (.iload 4, 0, 0, 0, 0) := by decide +kernel
theorem i113_472 : ins 113 472 = some (.invokevirtual 100, 125, 76, 0, 0) := by decide +kernel
theorem i113_475 : ins 113 475 = some (.invokestatic 90, 122, 110, 1, 0) := by decide +kernel
theorem i113_478 : ins 113 478 = some (.aload 8, 0, 0, 0, 0) := by decide +kernel
theorem i113_480 : ins 113 480 = some (.invokevirtual 129, 130, 142, 0, 0) := by decide +kernel
theorem i113_483 : ins 113 483 = some (.ifCond .ne 5, 0, 0, 0, 0) := by decide +kernel
theorem g113_483 : tg 483 (5) = 488 := by decide
theorem i113_486 : ins 113 486 = some (.iconst 0, 0, 0, 0, 0) := by decide +kernel
theorem i113_487 : ins 113 487 = some (.ireturn, 0, 0, 0, 0) := by decide +kernel
theorem i113_488 : ins 113 488 = some (.iload 10, 0, 0, 0, 0) := by decide +kernel
theorem i113_490 : ins 113 490 = some (.istore_n 3, 0, 0, 0, 0) := by decide +kernel
theorem i113_491 : ins 113 491 = some (.iinc 4 1, 0, 0, 0, 0) := by decide +kernel
theorem i113_494 : ins 113 494 = some (.goto (-479), 0, 0, 0, 0) := by decide +kernel
theorem g113_494 : tg 494 (-479) = 15 := by decide
theorem i113_497 : ins 113 497 = some (.iload_n 1, 0, 0, 0, 0) := by decide +kernel
theorem i113_498 : ins 113 498 = some (.ifCond .ne 7, 0, 0, 0, 0) := by decide +kernel
theorem g113_498 : tg 498 (7) = 505 := by decide
theorem i113_501 : ins 113 501 = some (.dconst 0, 0, 0, 0, 0) := by decide +kernel
theorem i113_502 : ins 113 502 = some (.goto 10, 0, 0, 0, 0) := by decide +kernel
theorem g113_502 : tg 502 (10) = 512 := by decide
theorem i113_505 : ins 113 505 = some (.aload_n 2, 0, 0, 0, 0) := by decide +kernel
theorem i113_506 : ins 113 506 = some (.iconst 0, 0, 0, 0, 0) := by decide +kernel
theorem i113_507 : ins 113 507 = some (.iaload, 0, 0, 0, 0) := by decide +kernel
theorem i113_508 : ins 113 508 = some (.i2d, 0, 0, 0, 0) := by decide +kernel
theorem i113_509 : ins 113 509 = some (.iload_n 1, 0, 0, 0, 0) := by decide +kernel
theorem i113_510 : ins 113 510 = some (.i2d, 0, 0, 0, 0) := by decide +kernel
theorem i113_511 : ins 113 511 = some (.ddiv, 0, 0, 0, 0) := by decide +kernel
theorem i113_512 : ins 113 512 = some (.dstore 4, 0, 0, 0, 0) := by decide +kernel
theorem i113_514 : ins 113 514 = some (.iload_n 1, 0, 0, 0, 0) := by decide +kernel
theorem i113_515 : ins 113 515 = some (.ifCond .ne 7, 0, 0, 0, 0) := by decide +kernel
theorem g113_515 : tg 515 (7) = 522 := by decide
theorem i113_518 : ins 113 518 = some (.fconst 0, 0, 0, 0, 0) := by decide +kernel
theorem i113_519 : ins 113 519 = some (.goto 10, 0, 0, 0, 0) := by decide +kernel
theorem g113_519 : tg 519 (10) = 529 := by decide
theorem i113_522 : ins 113 522 = some (.aload_n 2, 0, 0, 0, 0) := by decide +kernel
theorem i113_523 : ins 113 523 = some (.iconst 2, 0, 0, 0, 0) := by decide +kernel
theorem i113_524 : ins 113 524 = some (.iaload, 0, 0, 0, 0) := by decide +kernel
theorem i113_525 : ins 113 525 = some (.i2f, 0, 0, 0, 0) := by decide +kernel
theorem i113_526 : ins 113 526 = some (.iload_n 1, 0, 0, 0, 0) := by decide +kernel
theorem i113_527 : ins 113 527 = some (.i2f, 0, 0, 0, 0) := by decide +kernel
theorem i113_528 : ins 113 528 = some (.fdiv, 0, 0, 0, 0) := by decide +kernel
theorem i113_529 : ins 113 529 = some (.fstore 6, 0, 0, 0, 0) := by decide +kernel
theorem i113_531 : ins 113 531 = some (.aload_n 0, 0, 0, 0, 0) := by decide +kernel
theorem i113_532 : ins 113 532 = some (.iconst 2, 0, 0, 0, 0) := by decide +kernel
theorem i113_533 : ins 113 533 = some (.invokevirtual 40, 106, 80, 0, 0) := by decide +kernel
theorem i113_536 : ins 113 536 = some (.aload_n 2, 0, 0, 0, 0) := by decide +kernel
theorem i113_537 : ins 113 537 = some (.iconst 2, 0, 0, 0, 0) := by decide +kernel
theorem i113_538 : ins 113 538 = some (.iaload, 0, 0, 0, 0) := by decide +kernel
theorem i113_539 : ins 113 539 = some (.if_icmp .ne 78, 0, 0, 0, 0) := by decide +kernel
theorem g113_539 : tg 539 (78) = 617 := by decide
theorem i113_542 : ins 113 542 = some (.aload_n 0, 0, 0, 0, 0) := by decide +kernel
theorem i113_543 : ins 113 543 = some (.iconst 3, 0, 0, 0, 0) := by decide +kernel
theorem i113_544 : ins 113 544 = some (.invokevirtual 40, 106, 80, 0, 0) := by decide +kernel
theorem i113_547 : ins 113 547 = some (.aload_n 2, 0, 0, 0, 0) := by decide +kernel
theorem i113_548 : ins 113 548 = some (.iconst 0, 0, 0, 0, 0) := by decide +kernel
theorem i113_549 : ins 113 549 = some (.iaload, 0, 0, 0, 0) := by decide +kernel
theorem i113_550 : ins 113 550 = some (.if_icmp .ne 67, 0, 0, 0, 0) := by decide +kernel
theorem g113_550 : tg 550 (67) = 617 := by decide
theorem i113_553 : ins 113 553 = some (.aload_n 0, 0, 0, 0, 0) := by decide +kernel
theorem i113_554 : ins 113 554 = some (.bipush 10, 0, 0, 0, 0) := by decide +kernel
theorem i113_556 : ins 113 556 = some (.invokevirtual 40, 106, 80, 0, 0) := by decide +kernel
theorem i113_559 : ins 113 559 = some (.aload_n 2, 0, 0, 0, 0) := by decide +kernel
theorem i113_560 : ins 113 560 = some (.iconst 1, 0, 0, 0, 0) := by decide +kernel
theorem i113_561 : ins 113 561 = some (.iaload, 0, 0, 0, 0) := by decide +kernel
theorem i113_562 : ins 113 562 = some (.if_icmp .ne 55, 0, 0, 0, 0) := by decide +kernel
theorem g113_562 : tg 562 (55) = 617 := by decide
theorem i113_565 : ins 113 565 = some (.aload_n 0, 0, 0, 0, 0) := by decide +kernel
theorem i113_566 : ins 113 566 = some (.invokevirtual 133, 131, 120, 0, 0) := by decide +kernel
theorem i113_569 : ins 113 569 = some (.dload 4, 0, 0, 0, 0) := by decide +kernel
theorem i113_571 : ins 113 571 = some (.dcmp .l, 0, 0, 0, 0) := by decide +kernel
theorem i113_572 : ins 113 572 = some (.ifCond .ne 45, 0, 0, 0, 0) := by decide +kernel
theorem g113_572 : tg 572 (45) = 617 := by decide
theorem i113_575 : ins 113 575 = some (.aload_n 0, 0, 0, 0, 0) := by decide +kernel
theorem i113_576 : ins 113 576 = some (.invokevirtual 137, 132, 121, 0, 0) := by decide +kernel
theorem i113_579 : ins 113 579 = some (.fload 6, 0, 0, 0, 0) := by decide +kernel
theorem i113_581 : ins 113 581 = some (.fcmp .l, 0, 0, 0, 0) := by decide +kernel
theorem i113_582 : ins 113 582 = some (.ifCond .ne 35, 0, 0, 0, 0) := by decide +kernel
theorem g113_582 : tg 582 (35) = 617 := by decide
theorem i113_585 : ins 113 585 = some (.aload_n 0, 0, 0, 0, 0) := by decide +kernel
theorem i113_586 : ins 113 586 = some (.iload_n 1, 0, 0, 0, 0) := by decide +kernel
theorem i113_587 : ins 113 587 = some (.invokevirtual 126, 129, 73, 0, 0) := by decide +kernel
theorem i113_590 : ins 113 590 = some (.sipush (-1011), 0, 0, 0, 0) := by decide +kernel
theorem i113_593 : ins 113 593 = some (.if_icmp .ne 24, 0, 0, 0, 0) := by decide +kernel
theorem g113_593 : tg 593 (24) = 617 := by decide
theorem i113_596 : ins 113 596 = some (.aload_n 0, 0, 0, 0, 0) := by decide +kernel
theorem i113_597 : ins 113 597 = some (.iload_n 1, 0, 0, 0, 0) := by decide +kernel
theorem i113_598 : ins 113 598 = some (.invokevirtual 100, 125, 76, 0, 0) := by decide +kernel
theorem i113_601 : ins 113 601 = some (.sipush (-1011), 0, 0, 0, 0) := by decide +kernel
theorem i113_604 : ins 113 604 = some (.if_icmp .ne 13, 0, 0, 0, 0) := by decide +kernel
theorem g113_604 : tg 604 (13) = 617 := by decide
theorem i113_607 : ins 113 607 = some (.iload_n 1, 0, 0, 0, 0) := by decide +kernel
theorem i113_608 : ins 113 608 = some (.bipush 12, 0, 0, 0, 0) := by decide +kernel
theorem i113_610 : ins 113 610 = some (.if_icmp .gt 7, 0, 0, 0, 0) := by decide +kernel
theorem g113_610 : tg 610 (7) = 617 := by decide
theorem i113_613 : ins 113 613 = some (.iconst 1, 0, 0, 0, 0) := by decide +kernel
theorem i113_614 : ins 113 614 = some (.goto 4, 0, 0, 0, 0) := by decide +kernel
theorem g113_614 : tg 614 (4) = 618 := by decide
theorem i113_617 : ins 113 617 = some (.iconst 0, 0, 0, 0, 0) := by decide +kernel
theorem i113_618 : ins 113 618 = some (.ireturn, 0, 0, 0, 0) := by decide +kernel
theorem c114 : 114 < mnames ∧ nA 114 = 1 ∧ nS 114 = 1 := by decide +kernel
theorem m114 : (114 ≠ ensK ∧ 114 < mnames) ∧ nA 114 = 1 ∧ nL 114 = 17 := by decide +kernel
theorem r114 : nR 114 = (some .boolean) := by decide +kernel
theorem i114_0 : ins 114 0 = some (.iconst 0, 0, 0, 0, 0) := by decide +kernel
theorem i114_1 : ins 114 1 = some (.istore_n 1, 0, 0, 0, 0) := by decide +kernel
theorem i114_2 : ins 114 2 = some (.iconst 0, 0, 0, 0, 0) := by decide +kernel
theorem i114_3 : ins 114 3 = some (.istore_n 2, 0, 0, 0, 0) := by decide +kernel
theorem i114_4 : ins 114 4 = some (.iconst 0, 0, 0, 0, 0) := by decide +kernel
theorem i114_5 : ins 114 5 = some (.istore_n 3, 0, 0, 0, 0) := by decide +kernel
theorem i114_6 : ins 114 6 = some (.iconst 0, 0, 0, 0, 0) := by decide +kernel
theorem i114_7 : ins 114 7 = some (.istore 4, 0, 0, 0, 0) := by decide +kernel
theorem i114_9 : ins 114 9 = some (.iconst (-1), 0, 0, 0, 0) := by decide +kernel
theorem i114_10 : ins 114 10 = some (.istore 5, 0, 0, 0, 0) := by decide +kernel
theorem i114_12 : ins 114 12 = some (.new 74, 0, 0, 0, 0) := by decide +kernel
theorem i114_15 : ins 114 15 = some (.dup, 0, 0, 0, 0) := by decide +kernel
theorem i114_16 : ins 114 16 = some (.invokespecial 76, 117, 122, 4, 0) := by decide +kernel
theorem i114_19 : ins 114 19 = some (.astore 6, 0, 0, 0, 0) := by decide +kernel
theorem i114_21 : ins 114 21 = some (.iconst 0, 0, 0, 0, 0) := by decide +kernel
theorem i114_22 : ins 114 22 = some (.istore 7, 0, 0, 0, 0) := by decide +kernel
theorem i114_24 : ins 114 24 = some (.iload 7, 0, 0, 0, 0) := by decide +kernel
theorem i114_26 : ins 114 26 = some (.bipush 6, 0, 0, 0, 0) := by decide +kernel
theorem i114_28 : ins 114 28 = some (.if_icmp .ge 564, 0, 0, 0, 0) := by decide +kernel
theorem g114_28 : tg 28 (564) = 592 := by decide
theorem i114_31 : ins 114 31 = some (.iconst 0, 0, 0, 0, 0) := by decide +kernel
theorem i114_32 : ins 114 32 = some (.istore 8, 0, 0, 0, 0) := by decide +kernel
theorem i114_34 : ins 114 34 = some (.iconst 0, 0, 0, 0, 0) := by decide +kernel
theorem i114_35 : ins 114 35 = some (.istore 9, 0, 0, 0, 0) := by decide +kernel
theorem i114_37 : ins 114 37 = some (.iconst 0, 0, 0, 0, 0) := by decide +kernel
theorem i114_38 : ins 114 38 = some (.istore 10, 0, 0, 0, 0) := by decide +kernel
theorem i114_40 : ins 114 40 = some (.iconst 0, 0, 0, 0, 0) := by decide +kernel
theorem i114_41 : ins 114 41 = some (.istore 11, 0, 0, 0, 0) := by decide +kernel
theorem i114_43 : ins 114 43 = some (.aload_n 0, 0, 0, 0, 0) := by decide +kernel
theorem i114_44 : ins 114 44 = some (.iload 7, 0, 0, 0, 0) := by decide +kernel
theorem i114_46 : ins 114 46 = some (.iconst 0, 0, 0, 0, 0) := by decide +kernel
theorem i114_47 : ins 114 47 = some (.invokevirtual 109, 128, 67, 0, 0) := by decide +kernel
theorem i114_50 : ins 114 50 = some (.iconst 1, 0, 0, 0, 0) := by decide +kernel
theorem i114_51 : ins 114 51 = some (.if_icmp .ne 13, 0, 0, 0, 0) := by decide +kernel
theorem g114_51 : tg 51 (13) = 64 := by decide
theorem i114_54 : ins 114 54 = some (.aload_n 0, 0, 0, 0, 0) := by decide +kernel
theorem i114_55 : ins 114 55 = some (.iload 7, 0, 0, 0, 0) := by decide +kernel
theorem i114_57 : ins 114 57 = some (.iconst 3, 0, 0, 0, 0) := by decide +kernel
theorem i114_58 : ins 114 58 = some (.invokevirtual 109, 128, 67, 0, 0) := by decide +kernel
theorem i114_61 : ins 114 61 = some (.goto 4, 0, 0, 0, 0) := by decide +kernel
theorem g114_61 : tg 61 (4) = 65 := by decide
theorem i114_64 : ins 114 64 = some (.iconst 0, 0, 0, 0, 0) := by decide +kernel
theorem i114_65 : ins 114 65 = some (.istore 12, 0, 0, 0, 0) := by decide +kernel
theorem i114_67 : ins 114 67 = some (.iconst 0, 0, 0, 0, 0) := by decide +kernel
theorem i114_68 : ins 114 68 = some (.istore 13, 0, 0, 0, 0) := by decide +kernel
theorem i114_70 : ins 114 70 = some (.iload 13, 0, 0, 0, 0) := by decide +kernel
theorem i114_72 : ins 114 72 = some (.aload_n 0, 0, 0, 0, 0) := by decide +kernel
theorem i114_73 : ins 114 73 = some (.iconst 0, 0, 0, 0, 0) := by decide +kernel
theorem i114_74 : ins 114 74 = some (.invokevirtual 40, 106, 80, 0, 0) := by decide +kernel
theorem i114_77 : ins 114 77 = some (.if_icmp .ge 138, 0, 0, 0, 0) := by decide +kernel
theorem g114_77 : tg 77 (138) = 215 := by decide
theorem i114_80 : ins 114 80 = some (.aload_n 0, 0, 0, 0, 0) := by decide +kernel
theorem i114_81 : ins 114 81 = some (.iload 13, 0, 0, 0, 0) := by decide +kernel
theorem i114_83 : ins 114 83 = some (.iconst 0, 0, 0, 0, 0) := by decide +kernel
theorem i114_84 : ins 114 84 = some (.invokevirtual 106, 127, 58, 0, 0) := by decide +kernel
theorem i114_87 : ins 114 87 = some (.iload 7, 0, 0, 0, 0) := by decide +kernel
theorem i114_89 : ins 114 89 = some (.if_icmp .ne 7, 0, 0, 0, 0) := by decide +kernel
theorem g114_89 : tg 89 (7) = 96 := by decide
theorem i114_92 : ins 114 92 = some (.iconst 1, 0, 0, 0, 0) := by decide +kernel
theorem i114_93 : ins 114 93 = some (.goto 4, 0, 0, 0, 0) := by decide +kernel
theorem g114_93 : tg 93 (4) = 97 := by decide
theorem i114_96 : ins 114 96 = some (.iconst 0, 0, 0, 0, 0) := by decide +kernel
theorem i114_97 : ins 114 97 = some (.istore 14, 0, 0, 0, 0) := by decide +kernel
theorem i114_99 : ins 114 99 = some (.iload 8, 0, 0, 0, 0) := by decide +kernel
theorem i114_101 : ins 114 101 = some (.iload 14, 0, 0, 0, 0) := by decide +kernel
theorem i114_103 : ins 114 103 = some (.ifCond .eq 15, 0, 0, 0, 0) := by decide +kernel
theorem g114_103 : tg 103 (15) = 118 := by decide
theorem i114_106 : ins 114 106 = some (.iconst 1, 0, 0, 0, 0) := by decide +kernel
theorem i114_107 : ins 114 107 = some (.aload_n 0, 0, 0, 0, 0) := by decide +kernel
theorem i114_108 : ins 114 108 = some (.iload 13, 0, 0, 0, 0) := by decide +kernel
theorem i114_110 : ins 114 110 = some (.iconst 1, 0, 0, 0, 0) := by decide +kernel
theorem i114_111 : ins 114 111 = some (.invokevirtual 106, 127, 58, 0, 0) := by decide +kernel
theorem i114_114 : ins 114 114 = some (.iadd, 0, 0, 0, 0) := by decide +kernel
theorem i114_115 : ins 114 115 = some (.goto 4, 0, 0, 0, 0) := by decide +kernel
theorem g114_115 : tg 115 (4) = 119 := by decide
theorem i114_118 : ins 114 118 = some (.iconst 0, 0, 0, 0, 0) := by decide +kernel
theorem i114_119 : ins 114 119 = some (.iadd, 0, 0, 0, 0) := by decide +kernel
theorem i114_120 : ins 114 120 = some (.istore 8, 0, 0, 0, 0) := by decide +kernel
theorem i114_122 : ins 114 122 = some (.iload 9, 0, 0, 0, 0) := by decide +kernel
theorem i114_124 : ins 114 124 = some (.iload 14, 0, 0, 0, 0) := by decide +kernel
theorem i114_126 : ins 114 126 = some (.ifCond .eq 7, 0, 0, 0, 0) := by decide +kernel
theorem g114_126 : tg 126 (7) = 133 := by decide
theorem i114_129 : ins 114 129 = some (.iconst 1, 0, 0, 0, 0) := by decide +kernel
theorem i114_130 : ins 114 130 = some (.goto 4, 0, 0, 0, 0) := by decide +kernel
theorem g114_130 : tg 130 (4) = 134 := by decide
theorem i114_133 : ins 114 133 = some (.iconst 0, 0, 0, 0, 0) := by decide +kernel
theorem i114_134 : ins 114 134 = some (.iadd, 0, 0, 0, 0) := by decide +kernel
theorem i114_135 : ins 114 135 = some (.istore 9, 0, 0, 0, 0) := by decide +kernel
theorem i114_137 : ins 114 137 = some (.iload 11, 0, 0, 0, 0) := by decide +kernel
theorem i114_139 : ins 114 139 = some (.iload 14, 0, 0, 0, 0) := by decide +kernel
theorem i114_141 : ins 114 141 = some (.ifCond .eq 13, 0, 0, 0, 0) := by decide +kernel
theorem g114_141 : tg 141 (13) = 154 := by decide
theorem i114_144 : ins 114 144 = some (.aload_n 0, 0, 0, 0, 0) := by decide +kernel
theorem i114_145 : ins 114 145 = some (.iload 13, 0, 0, 0, 0) := by decide +kernel
theorem i114_147 : ins 114 147 = some (.iconst 4, 0, 0, 0, 0) := by decide +kernel
theorem i114_148 : ins 114 148 = some (.invokevirtual 106, 127, 58, 0, 0) := by decide +kernel
theorem i114_151 : ins 114 151 = some (.goto 4, 0, 0, 0, 0) := by decide +kernel
theorem g114_151 : tg 151 (4) = 155 := by decide
theorem i114_154 : ins 114 154 = some (.iconst 0, 0, 0, 0, 0) := by decide +kernel
theorem i114_155 : ins 114 155 = some (.iadd, 0, 0, 0, 0) := by decide +kernel
theorem i114_156 : ins 114 156 = some (.istore 11, 0, 0, 0, 0) := by decide +kernel
theorem i114_158 : ins 114 158 = some (.iload 10, 0, 0, 0, 0) := by decide +kernel
theorem i114_160 : ins 114 160 = some (.aload_n 0, 0, 0, 0, 0) := by decide +kernel
theorem i114_161 : ins 114 161 = some (.iload 13, 0, 0, 0, 0) := by decide +kernel
theorem i114_163 : ins 114 163 = some (.bipush 6, 0, 0, 0, 0) := by decide +kernel
theorem i114_165 : ins 114 165 = some (.invokevirtual 106, 127, 58, 0, 0) := by decide +kernel
theorem i114_168 : ins 114 168 = some (.iload 7, 0, 0, 0, 0) := by decide +kernel
theorem i114_170 : ins 114 170 = some (.if_icmp .ne 7, 0, 0, 0, 0) := by decide +kernel
theorem g114_170 : tg 170 (7) = 177 := by decide
theorem i114_173 : ins 114 173 = some (.iconst 1, 0, 0, 0, 0) := by decide +kernel
theorem i114_174 : ins 114 174 = some (.goto 4, 0, 0, 0, 0) := by decide +kernel
theorem g114_174 : tg 174 (4) = 178 := by decide
theorem i114_177 : ins 114 177 = some (.iconst 0, 0, 0, 0, 0) := by decide +kernel
theorem i114_178 : ins 114 178 = some (.iadd, 0, 0, 0, 0) := by decide +kernel
theorem i114_179 : ins 114 179 = some (.istore 10, 0, 0, 0, 0) := by decide +kernel
theorem i114_181 : ins 114 181 = some (.iload 12, 0, 0, 0, 0) := by decide +kernel
theorem i114_183 : ins 114 183 = some (.aload_n 0, 0, 0, 0, 0) := by decide +kernel
theorem i114_184 : ins 114 184 = some (.iload 13, 0, 0, 0, 0) := by decide +kernel
theorem i114_186 : ins 114 186 = some (.iconst 3, 0, 0, 0, 0) := by decide +kernel
theorem i114_187 : ins 114 187 = some (.invokevirtual 106, 127, 58, 0, 0) := by decide +kernel
theorem i114_190 : ins 114 190 = some (.iload 7, 0, 0, 0, 0) := by decide +kernel
theorem i114_192 : ins 114 192 = some (.if_icmp .ne 13, 0, 0, 0, 0) := by decide +kernel
theorem g114_192 : tg 192 (13) = 205 := by decide
theorem i114_195 : ins 114 195 = some (.aload_n 0, 0, 0, 0, 0) := by decide +kernel
theorem i114_196 : ins 114 196 = some (.iload 13, 0, 0, 0, 0) := by decide +kernel
theorem i114_198 : ins 114 198 = some (.iconst 4, 0, 0, 0, 0) := by decide +kernel
theorem i114_199 : ins 114 199 = some (.invokevirtual 106, 127, 58, 0, 0) := by decide +kernel
theorem i114_202 : ins 114 202 = some (.goto 4, 0, 0, 0, 0) := by decide +kernel
theorem g114_202 : tg 202 (4) = 206 := by decide
theorem i114_205 : ins 114 205 = some (.iconst 0, 0, 0, 0, 0) := by decide +kernel
theorem i114_206 : ins 114 206 = some (.iadd, 0, 0, 0, 0) := by decide +kernel
theorem i114_207 : ins 114 207 = some (.istore 12, 0, 0, 0, 0) := by decide +kernel
theorem i114_209 : ins 114 209 = some (.iinc 13 1, 0, 0, 0, 0) := by decide +kernel
theorem i114_212 : ins 114 212 = some (.goto (-142), 0, 0, 0, 0) := by decide +kernel
theorem g114_212 : tg 212 (-142) = 70 := by decide
theorem i114_215 : ins 114 215 = some (.aload_n 0, 0, 0, 0, 0) := by decide +kernel
theorem i114_216 : ins 114 216 = some (.iload 7, 0, 0, 0, 0) := by decide +kernel
theorem i114_218 : ins 114 218 = some (.iconst 0, 0, 0, 0, 0) := by decide +kernel
theorem i114_219 : ins 114 219 = some (.invokevirtual 109, 128, 67, 0, 0) := by decide +kernel
theorem i114_222 : ins 114 222 = some (.iconst 1, 0, 0, 0, 0) := by decide +kernel
theorem i114_223 : ins 114 223 = some (.if_icmp .ne 7, 0, 0, 0, 0) := by decide +kernel
theorem g114_223 : tg 223 (7) = 230 := by decide
theorem i114_226 : ins 114 226 = some (.iconst 1, 0, 0, 0, 0) := by decide +kernel
theorem i114_227 : ins 114 227 = some (.goto 4, 0, 0, 0, 0) := by decide +kernel
theorem g114_227 : tg 227 (4) = 231 := by decide
theorem i114_230 : ins 114 230 = some (.iconst 0, 0, 0, 0, 0) := by decide +kernel
theorem i114_231 : ins 114 231 = some (.istore 13, 0, 0, 0, 0) := by decide +kernel
theorem i114_233 : ins 114 233 = some (.iload_n 1, 0, 0, 0, 0) := by decide +kernel
theorem i114_234 : ins 114 234 = some (.iload 13, 0, 0, 0, 0) := by decide +kernel
theorem i114_236 : ins 114 236 = some (.ifCond .eq 7, 0, 0, 0, 0) := by decide +kernel
theorem g114_236 : tg 236 (7) = 243 := by decide
theorem i114_239 : ins 114 239 = some (.iconst 1, 0, 0, 0, 0) := by decide +kernel
theorem i114_240 : ins 114 240 = some (.goto 4, 0, 0, 0, 0) := by decide +kernel
theorem g114_240 : tg 240 (4) = 244 := by decide
theorem i114_243 : ins 114 243 = some (.iconst 0, 0, 0, 0, 0) := by decide +kernel
theorem i114_244 : ins 114 244 = some (.iadd, 0, 0, 0, 0) := by decide +kernel
theorem i114_245 : ins 114 245 = some (.istore_n 1, 0, 0, 0, 0) := by decide +kernel
theorem i114_246 : ins 114 246 = some (.iload_n 2, 0, 0, 0, 0) := by decide +kernel
theorem i114_247 : ins 114 247 = some (.aload_n 0, 0, 0, 0, 0) := by decide +kernel
theorem i114_248 : ins 114 248 = some (.iload 7, 0, 0, 0, 0) := by decide +kernel
theorem i114_250 : ins 114 250 = some (.iconst 2, 0, 0, 0, 0) := by decide +kernel
theorem i114_251 : ins 114 251 = some (.invokevirtual 109, 128, 67, 0, 0) := by decide +kernel
theorem i114_254 : ins 114 254 = some (.iadd, 0, 0, 0, 0) := by decide +kernel
theorem i114_255 : ins 114 255 = some (.istore_n 2, 0, 0, 0, 0) := by decide +kernel
theorem i114_256 : ins 114 256 = some (.iload_n 3, 0, 0, 0, 0) := by decide +kernel
theorem i114_257 : ins 114 257 = some (.aload_n 0, 0, 0, 0, 0) := by decide +kernel
theorem i114_258 : ins 114 258 = some (.iload 7, 0, 0, 0, 0) := by decide +kernel
theorem i114_260 : ins 114 260 = some (.iconst 3, 0, 0, 0, 0) := by decide +kernel
theorem i114_261 : ins 114 261 = some (.invokevirtual 109, 128, 67, 0, 0) := by decide +kernel
theorem i114_264 : ins 114 264 = some (.iadd, 0, 0, 0, 0) := by decide +kernel
theorem i114_265 : ins 114 265 = some (.istore_n 3, 0, 0, 0, 0) := by decide +kernel
theorem i114_266 : ins 114 266 = some (.iload 4, 0, 0, 0, 0) := by decide +kernel
theorem i114_268 : ins 114 268 = some (.iload 12, 0, 0, 0, 0) := by decide +kernel
theorem i114_270 : ins 114 270 = some (.iadd, 0, 0, 0, 0) := by decide +kernel
theorem i114_271 : ins 114 271 = some (.istore 4, 0, 0, 0, 0) := by decide +kernel
theorem i114_273 : ins 114 273 = some (.aload 6, 0, 0, 0, 0) := by decide +kernel
theorem i114_275 : ins 114 275 = some (.iload 7, 0, 0, 0, 0) := by decide +kernel
theorem i114_277 : ins 114 277 = some (.ifCond .ne 8, 0, 0, 0, 0) := by decide +kernel
theorem g114_277 : tg 277 (8) = 285 := by decide
theorem i114_280 : ins 114 280 = some (.ldc 122, 15, 1, 9, 0) := by decide +kernel
theorem i114_282 : ins 114 282 = some (.goto 5, 0, 0, 0, 0) := by decide +kernel
theorem g114_282 : tg 282 (5) = 287 := by decide
theorem i114_285 : ins 114 285 = some (.ldc 141, 17, 1, 16, 0) := by decide +kernel
theorem i114_287 : ins 114 287 = some (.invokevirtual 103, 126, 126, 0, 0) := by decide +kernel
theorem i114_290 : ins 114 290 = some (.iload 13, 0, 0, 0, 0) := by decide +kernel
theorem i114_292 : ins 114 292 = some (.ifCond .eq 31, 0, 0, 0, 0) := by decide +kernel
theorem g114_292 : tg 292 (31) = 323 := by decide
theorem i114_295 : ins 114 295 = some (.new 74, 0, 0, 0, 0) := by decide +kernel
theorem i114_298 : ins 114 298 = some (.dup, 0, 0, 0, 0) := by decide +kernel
theorem i114_299 : ins 114 299 = some (.invokespecial 76, 117, 122, 4, 0) := by decide +kernel
theorem i114_302 : ins 114 302 = some (.ldc 122, 15, 1, 9, 0) := by decide +kernel
theorem i114_304 : ins 114 304 = some (.invokevirtual 103, 126, 126, 0, 0) := by decide +kernel
theorem i114_307 : ins 114 307 = some (.aload_n 0, 0, 0, 0, 0) := by decide +kernel
theorem i114_308 : ins 114 308 = some (.iload 7, 0, 0, 0, 0) := by decide +kernel
theorem i114_310 : ins 114 310 = some (.iconst 2, 0, 0, 0, 0) := by decide +kernel
theorem i114_311 : ins 114 311 = some (.invokevirtual 109, 128, 67, 0, 0) := by decide +kernel
theorem i114_314 : ins 114 314 = some (.invokevirtual 97, 124, 190, 0, 0) := by decide +kernel
theorem i114_317 : ins 114 317 = some (.invokevirtual 83, 120, 135, 0, 0) := by decide +kernel
theorem i114_320 : ins 114 320 = some (.goto 5, 0, 0, 0, 0) := by decide +kernel
theorem g114_320 : tg 320 (5) = 325 := by decide
theorem i114_323 : ins 114 323 = some (.ldc 143, 18, 1, 17, 0) := by decide +kernel
theorem i114_325 : ins 114 325 = some (.invokevirtual 103, 126, 126, 0, 0) := by decide +kernel
theorem i114_328 : ins 114 328 = some (.iload 13, 0, 0, 0, 0) := by decide +kernel
theorem i114_330 : ins 114 330 = some (.ifCond .eq 41, 0, 0, 0, 0) := by decide +kernel
theorem g114_330 : tg 330 (41) = 371 := by decide
theorem i114_333 : ins 114 333 = some (.aload_n 0, 0, 0, 0, 0) := by decide +kernel
theorem i114_334 : ins 114 334 = some (.iload 7, 0, 0, 0, 0) := by decide +kernel
theorem i114_336 : ins 114 336 = some (.iconst 3, 0, 0, 0, 0) := by decide +kernel
theorem i114_337 : ins 114 337 = some (.invokevirtual 109, 128, 67, 0, 0) := by decide +kernel
theorem i114_340 : ins 114 340 = some (.ifCond .le 31, 0, 0, 0, 0) := by decide +kernel
theorem g114_340 : tg 340 (31) = 371 := by decide
theorem i114_343 : ins 114 343 = some (.new 74, 0, 0, 0, 0) := by decide +kernel
theorem i114_346 : ins 114 346 = some (.dup, 0, 0, 0, 0) := by decide +kernel
theorem i114_347 : ins 114 347 = some (.invokespecial 76, 117, 122, 4, 0) := by decide +kernel
theorem i114_350 : ins 114 350 = some (.ldc 145, 19, 1, 18, 0) := by decide +kernel
theorem i114_352 : ins 114 352 = some (.invokevirtual 103, 126, 126, 0, 0) := by decide +kernel
theorem i114_355 : ins 114 355 = some (.aload_n 0, 0, 0, 0, 0) := by decide +kernel
theorem i114_356 : ins 114 356 = some (.iload 7, 0, 0, 0, 0) := by decide +kernel
theorem i114_358 : ins 114 358 = some (.iconst 3, 0, 0, 0, 0) := by decide +kernel
theorem i114_359 : ins 114 359 = some (.invokevirtual 109, 128, 67, 0, 0) := by decide +kernel
theorem i114_362 : ins 114 362 = some (.invokevirtual 97, 124, 190, 0, 0) := by decide +kernel
theorem i114_365 : ins 114 365 = some (.invokevirtual 83, 120, 135, 0, 0) := by decide +kernel
theorem i114_368 : ins 114 368 = some (.goto 5, 0, 0, 0, 0) := by decide +kernel
theorem g114_368 : tg 368 (5) = 373 := by decide
theorem i114_371 : ins 114 371 = some (.ldc 122, 15, 1, 9, 0) := by decide +kernel
theorem i114_373 : ins 114 373 = some (.invokevirtual 103, 126, 126, 0, 0) := by decide +kernel
theorem i114_376 : ins 114 376 = some (.pop, 0, 0, 0, 0) := by decide +kernel
theorem i114_377 : ins 114 377 = some (.aload_n 0, 0, 0, 0, 0) := by decide +kernel
theorem i114_378 : ins 114 378 = some (.iload 7, 0, 0, 0, 0) := by decide +kernel
theorem i114_380 : ins 114 380 = some (.invokevirtual 147, 133, 72, 0, 0) := by decide +kernel
theorem i114_383 : ins 114 383 = some (.istore 14, 0, 0, 0, 0) := by decide +kernel
theorem i114_385 : ins 114 385 = some (.iload 5, 0, 0, 0, 0) := by decide +kernel
theorem i114_387 : ins 114 387 = some (.ifCond .ge 7, 0, 0, 0, 0) := by decide +kernel
theorem g114_387 : tg 387 (7) = 394 := by decide
theorem i114_390 : ins 114 390 = some (.iconst 1, 0, 0, 0, 0) := by decide +kernel
theorem i114_391 : ins 114 391 = some (.goto 18, 0, 0, 0, 0) := by decide +kernel
theorem g114_391 : tg 391 (18) = 409 := by decide
theorem i114_394 : ins 114 394 = some (.aload_n 0, 0, 0, 0, 0) := by decide +kernel
theorem i114_395 : ins 114 395 = some (.iload 5, 0, 0, 0, 0) := by decide +kernel
theorem i114_397 : ins 114 397 = some (.iconst 4, 0, 0, 0, 0) := by decide +kernel
theorem i114_398 : ins 114 398 = some (.invokevirtual 109, 128, 67, 0, 0) := by decide +kernel
theorem i114_401 : ins 114 401 = some (.aload_n 0, 0, 0, 0, 0) := by decide +kernel
theorem i114_402 : ins 114 402 = some (.iload 14, 0, 0, 0, 0) := by decide +kernel
theorem i114_404 : ins 114 404 = some (.iconst 4, 0, 0, 0, 0) := by decide +kernel
theorem i114_405 : ins 114 405 = some (.invokevirtual 109, 128, 67, 0, 0) := by decide +kernel
theorem i114_408 : ins 114 408 = some (.isub, 0, 0, 0, 0) := by decide +kernel
theorem i114_409 : ins 114 409 = some (.istore 15, 0, 0, 0, 0) := by decide +kernel
theorem i114_411 : ins 114 411 = some (.iload 15, 0, 0, 0, 0) := by decide +kernel
theorem i114_413 : ins 114 413 = some (.ifCond .eq 8, 0, 0, 0, 0) := by decide +kernel
theorem g114_413 : tg 413 (8) = 421 := by decide
theorem i114_416 : ins 114 416 = some (.iload 15, 0, 0, 0, 0) := by decide +kernel
theorem i114_418 : ins 114 418 = some (.goto 18, 0, 0, 0, 0) := by decide +kernel
theorem g114_418 : tg 418 (18) = 436 := by decide
theorem i114_421 : ins 114 421 = some (.aload_n 0, 0, 0, 0, 0) := by decide +kernel
theorem i114_422 : ins 114 422 = some (.iload 5, 0, 0, 0, 0) := by decide +kernel
theorem i114_424 : ins 114 424 = some (.iconst 2, 0, 0, 0, 0) := by decide +kernel
theorem i114_425 : ins 114 425 = some (.invokevirtual 109, 128, 67, 0, 0) := by decide +kernel
theorem i114_428 : ins 114 428 = some (.aload_n 0, 0, 0, 0, 0) := by decide +kernel
theorem i114_429 : ins 114 429 = some (.iload 14, 0, 0, 0, 0) := by decide +kernel
theorem i114_431 : ins 114 431 = some (.iconst 2, 0, 0, 0, 0) := by decide +kernel
theorem i114_432 : ins 114 432 = some (.invokevirtual 109, 128, 67, 0, 0) := by decide +kernel
theorem i114_435 : ins 114 435 = some (.isub, 0, 0, 0, 0) := by decide +kernel
theorem i114_436 : ins 114 436 = some (.istore 15, 0, 0, 0, 0) := by decide +kernel
theorem i114_438 : ins 114 438 = some (.aload_n 0, 0, 0, 0, 0) := by decide +kernel
theorem i114_439 : ins 114 439 = some (.iload 7, 0, 0, 0, 0) := by decide +kernel
theorem i114_441 : ins 114 441 = some (.iconst 4, 0, 0, 0, 0) := by decide +kernel
theorem i114_442 : ins 114 442 = some (.invokevirtual 109, 128, 67, 0, 0) := by decide +kernel
theorem i114_445 : ins 114 445 = some (.iload 12, 0, 0, 0, 0) := by decide +kernel
theorem i114_447 : ins 114 447 = some (.if_icmp .ne 80, 0, 0, 0, 0) := by decide +kernel
theorem g114_447 : tg 447 (80) = 527 := by decide
theorem i114_450 : ins 114 450 = some (.aload_n 0, 0, 0, 0, 0) := by decide +kernel
theorem i114_451 : ins 114 451 = some (.iload 7, 0, 0, 0, 0) := by decide +kernel
theorem i114_453 : ins 114 453 = some (.iconst 5, 0, 0, 0, 0) := by decide +kernel
theorem i114_454 : ins 114 454 = some (.invokevirtual 109, 128, 67, 0, 0) := by decide +kernel
theorem i114_457 : ins 114 457 = some (.iload 9, 0, 0, 0, 0) := by decide +kernel
theorem i114_459 : ins 114 459 = some (.if_icmp .ne 68, 0, 0, 0, 0) := by decide +kernel
theorem g114_459 : tg 459 (68) = 527 := by decide
theorem i114_462 : ins 114 462 = some (.aload_n 0, 0, 0, 0, 0) := by decide +kernel
theorem i114_463 : ins 114 463 = some (.iload 7, 0, 0, 0, 0) := by decide +kernel
theorem i114_465 : ins 114 465 = some (.bipush 6, 0, 0, 0, 0) := by decide +kernel
theorem i114_467 : ins 114 467 = some (.invokevirtual 109, 128, 67, 0, 0) := by decide +kernel
theorem i114_470 : ins 114 470 = some (.iload 10, 0, 0, 0, 0) := by decide +kernel
theorem i114_472 : ins 114 472 = some (.if_icmp .ne 55, 0, 0, 0, 0) := by decide +kernel
theorem g114_472 : tg 472 (55) = 527 := by decide
theorem i114_475 : ins 114 475 = some (.aload_n 0, 0, 0, 0, 0) := by decide +kernel
theorem i114_476 : ins 114 476 = some (.iload 7, 0, 0, 0, 0) := by decide +kernel
theorem i114_478 : ins 114 478 = some (.bipush 7, 0, 0, 0, 0) := by decide +kernel
theorem i114_480 : ins 114 480 = some (.invokevirtual 109, 128, 67, 0, 0) := by decide +kernel
theorem i114_483 : ins 114 483 = some (.iload 11, 0, 0, 0, 0) := by decide +kernel
theorem i114_485 : ins 114 485 = some (.if_icmp .ne 42, 0, 0, 0, 0) := by decide +kernel
theorem g114_485 : tg 485 (42) = 527 := by decide
theorem i114_488 : ins 114 488 = some (.aload_n 0, 0, 0, 0, 0) := by decide +kernel
theorem i114_489 : ins 114 489 = some (.iload 7, 0, 0, 0, 0) := by decide +kernel
theorem i114_491 : ins 114 491 = some (.invokevirtual 150, 134, 70, 0, 0) := by decide +kernel
theorem i114_494 : ins 114 494 = some (.iload 8, 0, 0, 0, 0) := by decide +kernel
theorem i114_496 : ins 114 496 = some (.if_icmp .ne 31, 0, 0, 0, 0) := by decide +kernel
theorem g114_496 : tg 496 (31) = 527 := by decide
theorem i114_499 : ins 114 499 = some (.aload_n 0, 0, 0, 0, 0) := by decide +kernel
theorem i114_500 : ins 114 500 = some (.iload 7, 0, 0, 0, 0) := by decide +kernel
theorem i114_502 : ins 114 502 = some (.invokevirtual 153, 135, 71, 0, 0) := by decide +kernel
theorem i114_505 : ins 114 505 = some (.iload 8, 0, 0, 0, 0) := by decide +kernel
theorem i114_507 : ins 114 507 = some (.if_icmp .ne 20, 0, 0, 0, 0) := by decide +kernel
theorem g114_507 : tg 507 (20) = 527 := by decide
theorem i114_510 : ins 114 510 = some (.iload 8, 0, 0, 0, 0) := by decide +kernel
theorem i114_512 : ins 114 512 = some (.bipush 60, 0, 0, 0, 0) := by decide +kernel
theorem i114_514 : ins 114 514 = some (.if_icmp .gt 13, 0, 0, 0, 0) := by decide +kernel
theorem g114_514 : tg 514 (13) = 527 := by decide
theorem i114_517 : ins 114 517 = some (.iload 10, 0, 0, 0, 0) := by decide +kernel
theorem i114_519 : ins 114 519 = some (.iconst 2, 0, 0, 0, 0) := by decide +kernel
theorem i114_520 : ins 114 520 = some (.if_icmp .gt 7, 0, 0, 0, 0) := by decide +kernel
theorem g114_520 : tg 520 (7) = 527 := by decide
theorem i114_523 : ins 114 523 = some (.iconst 1, 0, 0, 0, 0) := by decide +kernel
theorem i114_524 : ins 114 524 = some (.goto 4, 0, 0, 0, 0) := by decide +kernel
theorem g114_524 : tg 524 (4) = 528 := by decide
theorem i114_527 : ins 114 527 = some (.iconst 0, 0, 0, 0, 0) := by decide +kernel
theorem i114_528 : ins 114 528 = some (.istore 16, 0, 0, 0, 0) := by decide +kernel
theorem i114_530 : ins 114 530 = some (.iload 16, 0, 0, 0, 0) := by decide +kernel
theorem i114_532 : ins 114 532 = some (.ifCond .eq 48, 0, 0, 0, 0) := by decide +kernel
theorem g114_532 : tg 532 (48) = 580 := by decide
theorem i114_535 : ins 114 535 = some (.iload 15, 0, 0, 0, 0) := by decide +kernel
theorem i114_537 : ins 114 537 = some (.ifCond .lt 43, 0, 0, 0, 0) := by decide +kernel
theorem g114_537 : tg 537 (43) = 580 := by decide
theorem i114_540 : ins 114 540 = some (.iload 15, 0, 0, 0, 0) := by decide +kernel
theorem i114_542 : ins 114 542 = some (.ifCond .ne 10, 0, 0, 0, 0) := by decide +kernel
theorem g114_542 : tg 542 (10) = 552 := by decide
theorem i114_545 : ins 114 545 = some (.iload 14, 0, 0, 0, 0) := by decide +kernel
theorem i114_547 : ins 114 547 = some (.iload 5, 0, 0, 0, 0) := by decide +kernel
theorem i114_549 : ins 114 549 = some (.if_icmp .lt 31, 0, 0, 0, 0) := by decide +kernel
theorem g114_549 : tg 549 (31) = 580 := by decide
theorem i114_552 : ins 114 552 = some (.iload 13, 0, 0, 0, 0) := by decide +kernel
theorem i114_554 : ins 114 554 = some (.ifCond .ne 28, 0, 0, 0, 0) := by decide +kernel
theorem g114_554 : tg 554 (28) = 582 := by decide
theorem i114_557 : ins 114 557 = some (.iload 9, 0, 0, 0, 0) := by decide +kernel
theorem i114_559 : ins 114 559 = some (.ifCond .gt 21, 0, 0, 0, 0) := by decide +kernel
theorem g114_559 : tg 559 (21) = 580 := by decide
theorem i114_562 : ins 114 562 = some (.aload_n 0, 0, 0, 0, 0) := by decide +kernel
theorem i114_563 : ins 114 563 = some (.iload 7, 0, 0, 0, 0) := by decide +kernel
theorem i114_565 : ins 114 565 = some (.iconst 2, 0, 0, 0, 0) := by decide +kernel
theorem i114_566 : ins 114 566 = some (.invokevirtual 109, 128, 67, 0, 0) := by decide +kernel
theorem i114_569 : ins 114 569 = some (.aload_n 0, 0, 0, 0, 0) := by decide +kernel
theorem i114_570 : ins 114 570 = some (.iload 7, 0, 0, 0, 0) := by decide +kernel
theorem i114_572 : ins 114 572 = some (.iconst 3, 0, 0, 0, 0) := by decide +kernel
theorem i114_573 : ins 114 573 = some (.invokevirtual 109, 128, 67, 0, 0) := by decide +kernel
theorem i114_576 : ins 114 576 = some (.iadd, 0, 0, 0, 0) := by decide +kernel
theorem i114_577 : ins 114 577 = some (.ifCond .le 5, 0, 0, 0, 0) := by decide +kernel
theorem g114_577 : tg 577 (5) = 582 := by decide
theorem i114_580 : ins 114 580 = some (.iconst 0, 0, 0, 0, 0) := by decide +kernel
theorem i114_581 : ins 114 581 = some (.ireturn, 0, 0, 0, 0) := by decide +kernel
theorem i114_582 : ins 114 582 = some (.iload 14, 0, 0, 0, 0) := by decide +kernel
theorem i114_584 : ins 114 584 = some (.istore 5, 0, 0, 0, 0) := by decide +kernel
theorem i114_586 : ins 114 586 = some (.iinc 7 1, 0, 0, 0, 0) := by decide +kernel
theorem i114_589 : ins 114 589 = some (.goto (-565), 0, 0, 0, 0) := by decide +kernel
theorem g114_589 : tg 589 (-565) = 24 := by decide
theorem i114_592 : ins 114 592 = some (.aload_n 0, 0, 0, 0, 0) := by decide +kernel
theorem i114_593 : ins 114 593 = some (.iconst 1, 0, 0, 0, 0) := by decide +kernel
theorem i114_594 : ins 114 594 = some (.invokevirtual 40, 106, 80, 0, 0) := by decide +kernel
theorem i114_597 : ins 114 597 = some (.iload_n 1, 0, 0, 0, 0) := by decide +kernel
theorem i114_598 : ins 114 598 = some (.if_icmp .ne 50, 0, 0, 0, 0) := by decide +kernel
theorem g114_598 : tg 598 (50) = 648 := by decide
theorem i114_601 : ins 114 601 = some (.aload_n 0, 0, 0, 0, 0) := by decide +kernel
theorem i114_602 : ins 114 602 = some (.iconst 4, 0, 0, 0, 0) := by decide +kernel
theorem i114_603 : ins 114 603 = some (.invokevirtual 40, 106, 80, 0, 0) := by decide +kernel
theorem i114_606 : ins 114 606 = some (.iload_n 2, 0, 0, 0, 0) := by decide +kernel
theorem i114_607 : ins 114 607 = some (.if_icmp .ne 41, 0, 0, 0, 0) := by decide +kernel
theorem g114_607 : tg 607 (41) = 648 := by decide
theorem i114_610 : ins 114 610 = some (.aload_n 0, 0, 0, 0, 0) := by decide +kernel
theorem i114_611 : ins 114 611 = some (.iconst 5, 0, 0, 0, 0) := by decide +kernel
theorem i114_612 : ins 114 612 = some (.invokevirtual 40, 106, 80, 0, 0) := by decide +kernel
theorem i114_615 : ins 114 615 = some (.iload_n 3, 0, 0, 0, 0) := by decide +kernel
theorem i114_616 : ins 114 616 = some (.if_icmp .ne 32, 0, 0, 0, 0) := by decide +kernel
theorem g114_616 : tg 616 (32) = 648 := by decide
theorem i114_619 : ins 114 619 = some (.aload_n 0, 0, 0, 0, 0) := by decide +kernel
theorem i114_620 : ins 114 620 = some (.bipush 6, 0, 0, 0, 0) := by decide +kernel
theorem i114_622 : ins 114 622 = some (.invokevirtual 40, 106, 80, 0, 0) := by decide +kernel
theorem i114_625 : ins 114 625 = some (.aload_n 0, 0, 0, 0, 0) := by decide +kernel
theorem i114_626 : ins 114 626 = some (.iconst 3, 0, 0, 0, 0) := by decide +kernel
theorem i114_627 : ins 114 627 = some (.invokevirtual 40, 106, 80, 0, 0) := by decide +kernel
theorem i114_630 : ins 114 630 = some (.iload_n 2, 0, 0, 0, 0) := by decide +kernel
theorem i114_631 : ins 114 631 = some (.iadd, 0, 0, 0, 0) := by decide +kernel
theorem i114_632 : ins 114 632 = some (.iload_n 3, 0, 0, 0, 0) := by decide +kernel
theorem i114_633 : ins 114 633 = some (.iadd, 0, 0, 0, 0) := by decide +kernel
theorem i114_634 : ins 114 634 = some (.aload_n 0, 0, 0, 0, 0) := by decide +kernel
theorem i114_635 : ins 114 635 = some (.bipush 7, 0, 0, 0, 0) := by decide +kernel
theorem i114_637 : ins 114 637 = some (.invokevirtual 40, 106, 80, 0, 0) := by decide +kernel
theorem i114_640 : ins 114 640 = some (.iadd, 0, 0, 0, 0) := by decide +kernel
theorem i114_641 : ins 114 641 = some (.if_icmp .ne 7, 0, 0, 0, 0) := by decide +kernel
theorem g114_641 : tg 641 (7) = 648 := by decide
theorem i114_644 : ins 114 644 = some (.iconst 1, 0, 0, 0, 0) := by decide +kernel
theorem i114_645 : ins 114 645 = some (.goto 4, 0, 0, 0, 0) := by decide +kernel
theorem g114_645 : tg 645 (4) = 649 := by decide
theorem i114_648 : ins 114 648 = some (.iconst 0, 0, 0, 0, 0) := by decide +kernel
theorem i114_649 : ins 114 649 = some (.istore 7, 0, 0, 0, 0) := by decide +kernel
theorem i114_651 : ins 114 651 = some (.iload 7, 0, 0, 0, 0) := by decide +kernel
theorem i114_653 : ins 114 653 = some (.ifCond .eq 64, 0, 0, 0, 0) := by decide +kernel
theorem g114_653 : tg 653 (64) = 717 := by decide
theorem i114_656 : ins 114 656 = some (.aload_n 0, 0, 0, 0, 0) := by decide +kernel
theorem i114_657 : ins 114 657 = some (.invokevirtual 156, 136, 81, 0, 0) := by decide +kernel
theorem i114_660 : ins 114 660 = some (.iconst 1, 0, 0, 0, 0) := by decide +kernel
theorem i114_661 : ins 114 661 = some (.if_icmp .ne 56, 0, 0, 0, 0) := by decide +kernel
theorem g114_661 : tg 661 (56) = 717 := by decide
theorem i114_664 : ins 114 664 = some (.aload_n 0, 0, 0, 0, 0) := by decide +kernel
theorem i114_665 : ins 114 665 = some (.aload_n 0, 0, 0, 0, 0) := by decide +kernel
theorem i114_666 : ins 114 666 = some (.invokevirtual 87, 121, 77, 0, 0) := by decide +kernel
theorem i114_669 : ins 114 669 = some (.invokestatic 90, 122, 110, 1, 0) := by decide +kernel
theorem i114_672 : ins 114 672 = some (.aload 6, 0, 0, 0, 0) := by decide +kernel
theorem i114_674 : ins 114 674 = some (.invokevirtual 83, 120, 135, 0, 0) := by decide +kernel
theorem i114_677 : ins 114 677 = some (.invokevirtual 129, 130, 142, 0, 0) := by decide +kernel
theorem i114_680 : ins 114 680 = some (.ifCond .eq 37, 0, 0, 0, 0) := by decide +kernel
theorem g114_680 : tg 680 (37) = 717 := by decide
theorem i114_683 : ins 114 683 = some (.aload_n 0, 0, 0, 0, 0) := by decide +kernel
theorem i114_684 : ins 114 684 = some (.bipush 6, 0, 0, 0, 0) := by decide +kernel
theorem i114_686 : ins 114 686 = some (.invokevirtual 147, 133, 72, 0, 0) := by decide +kernel
theorem i114_689 : ins 114 689 = some (.sipush (-1011), 0, 0, 0, 0) := by decide +kernel
theorem i114_692 : ins 114 692 = some (.if_icmp .ne 25, 0, 0, 0, 0) := by decide +kernel
theorem g114_692 : tg 692 (25) = 717 := by decide
theorem i114_695 : ins 114 695 = some (.aload_n 0, 0, 0, 0, 0) := by decide +kernel
theorem i114_696 : ins 114 696 = some (.iload_n 3, 0, 0, 0, 0) := by decide +kernel
theorem i114_697 : ins 114 697 = some (.iload 4, 0, 0, 0, 0) := by decide +kernel
theorem i114_699 : ins 114 699 = some (.invokestatic 159, 137, 115, 1, 0) := by decide +kernel
theorem i114_702 : ins 114 702 = some (.ifCond .eq 15, 0, 0, 0, 0) := by decide +kernel
theorem g114_702 : tg 702 (15) = 717 := by decide
theorem i114_705 : ins 114 705 = some (.aload_n 0, 0, 0, 0, 0) := by decide +kernel
theorem i114_706 : ins 114 706 = some (.iload_n 1, 0, 0, 0, 0) := by decide +kernel
theorem i114_707 : ins 114 707 = some (.invokestatic 163, 138, 116, 1, 0) := by decide +kernel
theorem i114_710 : ins 114 710 = some (.ifCond .eq 7, 0, 0, 0, 0) := by decide +kernel
theorem g114_710 : tg 710 (7) = 717 := by decide
theorem i114_713 : ins 114 713 = some (.iconst 1, 0, 0, 0, 0) := by decide +kernel
theorem i114_714 : ins 114 714 = some (.goto 4, 0, 0, 0, 0) := by decide +kernel
theorem g114_714 : tg 714 (4) = 718 := by decide
theorem i114_717 : ins 114 717 = some (.iconst 0, 0, 0, 0, 0) := by decide +kernel
theorem i114_718 : ins 114 718 = some (.ireturn, 0, 0, 0, 0) := by decide +kernel
theorem c115 : 115 < mnames ∧ nA 115 = 3 ∧ nS 115 = 1 := by decide +kernel
theorem m115 : (115 ≠ ensK ∧ 115 < mnames) ∧ nA 115 = 3 ∧ nL 115 = 11 := by decide +kernel
theorem r115 : nR 115 = (some .boolean) := by decide +kernel
theorem i115_0 : ins 115 0 = some (.iconst 0, 0, 0, 0, 0) := by decide +kernel
theorem i115_1 : ins 115 1 = some (.istore_n 3, 0, 0, 0, 0) := by decide +kernel
theorem i115_2 : ins 115 2 = some (.iconst 0, 0, 0, 0, 0) := by decide +kernel
theorem i115_3 : ins 115 3 = some (.istore 4, 0, 0, 0, 0) := by decide +kernel
theorem i115_5 : ins 115 5 = some (.iload 4, 0, 0, 0, 0) := by decide +kernel
theorem i115_7 : ins 115 7 = some (.bipush 6, 0, 0, 0, 0) := by decide +kernel
theorem i115_9 : ins 115 9 = some (.if_icmp .ge 196, 0, 0, 0, 0) := by decide +kernel
theorem g115_9 : tg 9 (196) = 205 := by decide
theorem i115_12 : ins 115 12 = some (.aload_n 0, 0, 0, 0, 0) := by decide +kernel
theorem i115_13 : ins 115 13 = some (.iload 4, 0, 0, 0, 0) := by decide +kernel
theorem i115_15 : ins 115 15 = some (.invokevirtual 167, 139, 61, 0, 0) := by decide +kernel
theorem i115_18 : ins 115 18 = some (.istore 5, 0, 0, 0, 0) := by decide +kernel
theorem i115_20 : ins 115 20 = some (.iload_n 2, 0, 0, 0, 0) := by decide +kernel
theorem i115_21 : ins 115 21 = some (.ifCond .ne 7, 0, 0, 0, 0) := by decide +kernel
theorem g115_21 : tg 21 (7) = 28 := by decide
theorem i115_24 : ins 115 24 = some (.iconst 0, 0, 0, 0, 0) := by decide +kernel
theorem i115_25 : ins 115 25 = some (.goto 14, 0, 0, 0, 0) := by decide +kernel
theorem g115_25 : tg 25 (14) = 39 := by decide
theorem i115_28 : ins 115 28 = some (.iload_n 1, 0, 0, 0, 0) := by decide +kernel
theorem i115_29 : ins 115 29 = some (.aload_n 0, 0, 0, 0, 0) := by decide +kernel
theorem i115_30 : ins 115 30 = some (.iload 4, 0, 0, 0, 0) := by decide +kernel
theorem i115_32 : ins 115 32 = some (.iconst 4, 0, 0, 0, 0) := by decide +kernel
theorem i115_33 : ins 115 33 = some (.invokevirtual 109, 128, 67, 0, 0) := by decide +kernel
theorem i115_36 : ins 115 36 = some (.imul, 0, 0, 0, 0) := by decide +kernel
theorem i115_37 : ins 115 37 = some (.iload_n 2, 0, 0, 0, 0) := by decide +kernel
theorem i115_38 : ins 115 38 = some (.idiv, 0, 0, 0, 0) := by decide +kernel
theorem i115_39 : ins 115 39 = some (.istore 6, 0, 0, 0, 0) := by decide +kernel
theorem i115_41 : ins 115 41 = some (.iload_n 2, 0, 0, 0, 0) := by decide +kernel
theorem i115_42 : ins 115 42 = some (.ifCond .ne 7, 0, 0, 0, 0) := by decide +kernel
theorem g115_42 : tg 42 (7) = 49 := by decide
theorem i115_45 : ins 115 45 = some (.iconst 0, 0, 0, 0, 0) := by decide +kernel
theorem i115_46 : ins 115 46 = some (.goto 14, 0, 0, 0, 0) := by decide +kernel
theorem g115_46 : tg 46 (14) = 60 := by decide
theorem i115_49 : ins 115 49 = some (.iload_n 1, 0, 0, 0, 0) := by decide +kernel
theorem i115_50 : ins 115 50 = some (.aload_n 0, 0, 0, 0, 0) := by decide +kernel
theorem i115_51 : ins 115 51 = some (.iload 4, 0, 0, 0, 0) := by decide +kernel
theorem i115_53 : ins 115 53 = some (.iconst 4, 0, 0, 0, 0) := by decide +kernel
theorem i115_54 : ins 115 54 = some (.invokevirtual 109, 128, 67, 0, 0) := by decide +kernel
theorem i115_57 : ins 115 57 = some (.imul, 0, 0, 0, 0) := by decide +kernel
theorem i115_58 : ins 115 58 = some (.iload_n 2, 0, 0, 0, 0) := by decide +kernel
theorem i115_59 : ins 115 59 = some (.irem, 0, 0, 0, 0) := by decide +kernel
theorem i115_60 : ins 115 60 = some (.istore 7, 0, 0, 0, 0) := by decide +kernel
theorem i115_62 : ins 115 62 = some (.iload_n 3, 0, 0, 0, 0) := by decide +kernel
theorem i115_63 : ins 115 63 = some (.iload 5, 0, 0, 0, 0) := by decide +kernel
theorem i115_65 : ins 115 65 = some (.iadd, 0, 0, 0, 0) := by decide +kernel
theorem i115_66 : ins 115 66 = some (.istore_n 3, 0, 0, 0, 0) := by decide +kernel
theorem i115_67 : ins 115 67 = some (.aload_n 0, 0, 0, 0, 0) := by decide +kernel
theorem i115_68 : ins 115 68 = some (.iload 4, 0, 0, 0, 0) := by decide +kernel
theorem i115_70 : ins 115 70 = some (.invokevirtual 170, 140, 62, 0, 0) := by decide +kernel
theorem i115_73 : ins 115 73 = some (.iload 5, 0, 0, 0, 0) := by decide +kernel
theorem i115_75 : ins 115 75 = some (.if_icmp .ne 19, 0, 0, 0, 0) := by decide +kernel
theorem g115_75 : tg 75 (19) = 94 := by decide
theorem i115_78 : ins 115 78 = some (.iload 5, 0, 0, 0, 0) := by decide +kernel
theorem i115_80 : ins 115 80 = some (.iload 6, 0, 0, 0, 0) := by decide +kernel
theorem i115_82 : ins 115 82 = some (.if_icmp .lt 12, 0, 0, 0, 0) := by decide +kernel
theorem g115_82 : tg 82 (12) = 94 := by decide
theorem i115_85 : ins 115 85 = some (.iload 5, 0, 0, 0, 0) := by decide +kernel
theorem i115_87 : ins 115 87 = some (.iload 6, 0, 0, 0, 0) := by decide +kernel
theorem i115_89 : ins 115 89 = some (.iconst 1, 0, 0, 0, 0) := by decide +kernel
theorem i115_90 : ins 115 90 = some (.iadd, 0, 0, 0, 0) := by decide +kernel
theorem i115_91 : ins 115 91 = some (.if_icmp .le 5, 0, 0, 0, 0) := by decide +kernel
theorem g115_91 : tg 91 (5) = 96 := by decide
theorem i115_94 : ins 115 94 = some (.iconst 0, 0, 0, 0, 0) := by decide +kernel
theorem i115_95 : ins 115 95 = some (.ireturn, 0, 0, 0, 0) := by decide +kernel
theorem i115_96 : ins 115 96 = some (.iconst 0, 0, 0, 0, 0) := by decide +kernel
theorem i115_97 : ins 115 97 = some (.istore 8, 0, 0, 0, 0) := by decide +kernel
theorem i115_99 : ins 115 99 = some (.iload 8, 0, 0, 0, 0) := by decide +kernel
theorem i115_101 : ins 115 101 = some (.bipush 6, 0, 0, 0, 0) := by decide +kernel
theorem i115_103 : ins 115 103 = some (.if_icmp .ge 96, 0, 0, 0, 0) := by decide +kernel
theorem g115_103 : tg 103 (96) = 199 := by decide
theorem i115_106 : ins 115 106 = some (.iload 5, 0, 0, 0, 0) := by decide +kernel
theorem i115_108 : ins 115 108 = some (.iload 6, 0, 0, 0, 0) := by decide +kernel
theorem i115_110 : ins 115 110 = some (.if_icmp .ne 89, 0, 0, 0, 0) := by decide +kernel
theorem g115_110 : tg 110 (89) = 199 := by decide
theorem i115_113 : ins 115 113 = some (.iload_n 2, 0, 0, 0, 0) := by decide +kernel
theorem i115_114 : ins 115 114 = some (.ifCond .ne 7, 0, 0, 0, 0) := by decide +kernel
theorem g115_114 : tg 114 (7) = 121 := by decide
theorem i115_117 : ins 115 117 = some (.iconst 0, 0, 0, 0, 0) := by decide +kernel
theorem i115_118 : ins 115 118 = some (.goto 14, 0, 0, 0, 0) := by decide +kernel
theorem g115_118 : tg 118 (14) = 132 := by decide
theorem i115_121 : ins 115 121 = some (.iload_n 1, 0, 0, 0, 0) := by decide +kernel
theorem i115_122 : ins 115 122 = some (.aload_n 0, 0, 0, 0, 0) := by decide +kernel
theorem i115_123 : ins 115 123 = some (.iload 8, 0, 0, 0, 0) := by decide +kernel
theorem i115_125 : ins 115 125 = some (.iconst 4, 0, 0, 0, 0) := by decide +kernel
theorem i115_126 : ins 115 126 = some (.invokevirtual 109, 128, 67, 0, 0) := by decide +kernel
theorem i115_129 : ins 115 129 = some (.imul, 0, 0, 0, 0) := by decide +kernel
theorem i115_130 : ins 115 130 = some (.iload_n 2, 0, 0, 0, 0) := by decide +kernel
theorem i115_131 : ins 115 131 = some (.irem, 0, 0, 0, 0) := by decide +kernel
theorem i115_132 : ins 115 132 = some (.istore 9, 0, 0, 0, 0) := by decide +kernel
theorem i115_134 : ins 115 134 = some (.iload_n 2, 0, 0, 0, 0) := by decide +kernel
theorem i115_135 : ins 115 135 = some (.ifCond .le 27, 0, 0, 0, 0) := by decide +kernel
theorem g115_135 : tg 135 (27) = 162 := by decide
theorem i115_138 : ins 115 138 = some (.aload_n 0, 0, 0, 0, 0) := by decide +kernel
theorem i115_139 : ins 115 139 = some (.iload 8, 0, 0, 0, 0) := by decide +kernel
theorem i115_141 : ins 115 141 = some (.invokevirtual 167, 139, 61, 0, 0) := by decide +kernel
theorem i115_144 : ins 115 144 = some (.iload_n 1, 0, 0, 0, 0) := by decide +kernel
theorem i115_145 : ins 115 145 = some (.aload_n 0, 0, 0, 0, 0) := by decide +kernel
theorem i115_146 : ins 115 146 = some (.iload 8, 0, 0, 0, 0) := by decide +kernel
theorem i115_148 : ins 115 148 = some (.iconst 4, 0, 0, 0, 0) := by decide +kernel
theorem i115_149 : ins 115 149 = some (.invokevirtual 109, 128, 67, 0, 0) := by decide +kernel
theorem i115_152 : ins 115 152 = some (.imul, 0, 0, 0, 0) := by decide +kernel
theorem i115_153 : ins 115 153 = some (.iload_n 2, 0, 0, 0, 0) := by decide +kernel
theorem i115_154 : ins 115 154 = some (.idiv, 0, 0, 0, 0) := by decide +kernel
theorem i115_155 : ins 115 155 = some (.if_icmp .le 7, 0, 0, 0, 0) := by decide +kernel
theorem g115_155 : tg 155 (7) = 162 := by decide
theorem i115_158 : ins 115 158 = some (.iconst 1, 0, 0, 0, 0) := by decide +kernel
theorem i115_159 : ins 115 159 = some (.goto 4, 0, 0, 0, 0) := by decide +kernel
theorem g115_159 : tg 159 (4) = 163 := by decide
theorem i115_162 : ins 115 162 = some (.iconst 0, 0, 0, 0, 0) := by decide +kernel
theorem i115_163 : ins 115 163 = some (.istore 10, 0, 0, 0, 0) := by decide +kernel
theorem i115_165 : ins 115 165 = some (.iload 10, 0, 0, 0, 0) := by decide +kernel
theorem i115_167 : ins 115 167 = some (.ifCond .eq 26, 0, 0, 0, 0) := by decide +kernel
theorem g115_167 : tg 167 (26) = 193 := by decide
theorem i115_170 : ins 115 170 = some (.iload 9, 0, 0, 0, 0) := by decide +kernel
theorem i115_172 : ins 115 172 = some (.iload 7, 0, 0, 0, 0) := by decide +kernel
theorem i115_174 : ins 115 174 = some (.if_icmp .lt 17, 0, 0, 0, 0) := by decide +kernel
theorem g115_174 : tg 174 (17) = 191 := by decide
theorem i115_177 : ins 115 177 = some (.iload 9, 0, 0, 0, 0) := by decide +kernel
theorem i115_179 : ins 115 179 = some (.iload 7, 0, 0, 0, 0) := by decide +kernel
theorem i115_181 : ins 115 181 = some (.if_icmp .ne 12, 0, 0, 0, 0) := by decide +kernel
theorem g115_181 : tg 181 (12) = 193 := by decide
theorem i115_184 : ins 115 184 = some (.iload 8, 0, 0, 0, 0) := by decide +kernel
theorem i115_186 : ins 115 186 = some (.iload 4, 0, 0, 0, 0) := by decide +kernel
theorem i115_188 : ins 115 188 = some (.if_icmp .le 5, 0, 0, 0, 0) := by decide +kernel
theorem g115_188 : tg 188 (5) = 193 := by decide
theorem i115_191 : ins 115 191 = some (.iconst 0, 0, 0, 0, 0) := by decide +kernel
theorem i115_192 : ins 115 192 = some (.ireturn, 0, 0, 0, 0) := by decide +kernel
theorem i115_193 : ins 115 193 = some (.iinc 8 1, 0, 0, 0, 0) := by decide +kernel
theorem i115_196 : ins 115 196 = some (.goto (-97), 0, 0, 0, 0) := by decide +kernel
theorem g115_196 : tg 196 (-97) = 99 := by decide
theorem i115_199 : ins 115 199 = some (.iinc 4 1, 0, 0, 0, 0) := by decide +kernel
theorem i115_202 : ins 115 202 = some (.goto (-197), 0, 0, 0, 0) := by decide +kernel
theorem g115_202 : tg 202 (-197) = 5 := by decide
theorem i115_205 : ins 115 205 = some (.iload_n 3, 0, 0, 0, 0) := by decide +kernel
theorem i115_206 : ins 115 206 = some (.iload_n 2, 0, 0, 0, 0) := by decide +kernel
theorem i115_207 : ins 115 207 = some (.ifCond .ne 7, 0, 0, 0, 0) := by decide +kernel
theorem g115_207 : tg 207 (7) = 214 := by decide
theorem i115_210 : ins 115 210 = some (.iconst 0, 0, 0, 0, 0) := by decide +kernel
theorem i115_211 : ins 115 211 = some (.goto 4, 0, 0, 0, 0) := by decide +kernel
theorem g115_211 : tg 211 (4) = 215 := by decide
theorem i115_214 : ins 115 214 = some (.iload_n 1, 0, 0, 0, 0) := by decide +kernel
theorem i115_215 : ins 115 215 = some (.if_icmp .ne 19, 0, 0, 0, 0) := by decide +kernel
theorem g115_215 : tg 215 (19) = 234 := by decide
theorem i115_218 : ins 115 218 = some (.aload_n 0, 0, 0, 0, 0) := by decide +kernel
theorem i115_219 : ins 115 219 = some (.bipush 6, 0, 0, 0, 0) := by decide +kernel
theorem i115_221 : ins 115 221 = some (.invokevirtual 167, 139, 61, 0, 0) := by decide +kernel
theorem i115_224 : ins 115 224 = some (.sipush (-1011), 0, 0, 0, 0) := by decide +kernel
theorem i115_227 : ins 115 227 = some (.if_icmp .ne 7, 0, 0, 0, 0) := by decide +kernel
theorem g115_227 : tg 227 (7) = 234 := by decide
theorem i115_230 : ins 115 230 = some (.iconst 1, 0, 0, 0, 0) := by decide +kernel
theorem i115_231 : ins 115 231 = some (.goto 4, 0, 0, 0, 0) := by decide +kernel
theorem g115_231 : tg 231 (4) = 235 := by decide
theorem i115_234 : ins 115 234 = some (.iconst 0, 0, 0, 0, 0) := by decide +kernel
theorem i115_235 : ins 115 235 = some (.ireturn, 0, 0, 0, 0) := by decide +kernel
theorem c116 : 116 < mnames ∧ nA 116 = 2 ∧ nS 116 = 1 := by decide +kernel
theorem m116 : (116 ≠ ensK ∧ 116 < mnames) ∧ nA 116 = 2 ∧ nL 116 = 7 := by decide +kernel
theorem r116 : nR 116 = (some .boolean) := by decide +kernel
theorem i116_0 : ins 116 0 = some (.iconst 0, 0, 0, 0, 0) := by decide +kernel
theorem i116_1 : ins 116 1 = some (.istore_n 2, 0, 0, 0, 0) := by decide +kernel
theorem i116_2 : ins 116 2 = some (.iload_n 2, 0, 0, 0, 0) := by decide +kernel
theorem i116_3 : ins 116 3 = some (.bipush 6, 0, 0, 0, 0) := by decide +kernel
theorem i116_5 : ins 116 5 = some (.if_icmp .ge 190, 0, 0, 0, 0) := by decide +kernel
theorem g116_5 : tg 5 (190) = 195 := by decide
theorem i116_8 : ins 116 8 = some (.sipush (-1015), 0, 0, 0, 0) := by decide +kernel
theorem i116_11 : ins 116 11 = some (.istore_n 3, 0, 0, 0, 0) := by decide +kernel
theorem i116_12 : ins 116 12 = some (.aload_n 0, 0, 0, 0, 0) := by decide +kernel
theorem i116_13 : ins 116 13 = some (.iload_n 2, 0, 0, 0, 0) := by decide +kernel
theorem i116_14 : ins 116 14 = some (.iconst 0, 0, 0, 0, 0) := by decide +kernel
theorem i116_15 : ins 116 15 = some (.invokevirtual 109, 128, 67, 0, 0) := by decide +kernel
theorem i116_18 : ins 116 18 = some (.iconst 1, 0, 0, 0, 0) := by decide +kernel
theorem i116_19 : ins 116 19 = some (.if_icmp .ne 128, 0, 0, 0, 0) := by decide +kernel
theorem g116_19 : tg 19 (128) = 147 := by decide
theorem i116_22 : ins 116 22 = some (.iload_n 1, 0, 0, 0, 0) := by decide +kernel
theorem i116_23 : ins 116 23 = some (.iconst 1, 0, 0, 0, 0) := by decide +kernel
theorem i116_24 : ins 116 24 = some (.if_icmp .le 123, 0, 0, 0, 0) := by decide +kernel
theorem g116_24 : tg 24 (123) = 147 := by decide
theorem i116_27 : ins 116 27 = some (.iconst 1, 0, 0, 0, 0) := by decide +kernel
theorem i116_28 : ins 116 28 = some (.iload_n 2, 0, 0, 0, 0) := by decide +kernel
theorem i116_29 : ins 116 29 = some (.ishl, 0, 0, 0, 0) := by decide +kernel
theorem i116_30 : ins 116 30 = some (.istore 4, 0, 0, 0, 0) := by decide +kernel
theorem i116_32 : ins 116 32 = some (.aload_n 0, 0, 0, 0, 0) := by decide +kernel
theorem i116_33 : ins 116 33 = some (.iload_n 2, 0, 0, 0, 0) := by decide +kernel
theorem i116_34 : ins 116 34 = some (.iconst 1, 0, 0, 0, 0) := by decide +kernel
theorem i116_35 : ins 116 35 = some (.invokevirtual 109, 128, 67, 0, 0) := by decide +kernel
theorem i116_38 : ins 116 38 = some (.istore 5, 0, 0, 0, 0) := by decide +kernel
theorem i116_40 : ins 116 40 = some (.iload 4, 0, 0, 0, 0) := by decide +kernel
theorem i116_42 : ins 116 42 = some (.iload 5, 0, 0, 0, 0) := by decide +kernel
theorem i116_44 : ins 116 44 = some (.ishr, 0, 0, 0, 0) := by decide +kernel
theorem i116_45 : ins 116 45 = some (.iconst 1, 0, 0, 0, 0) := by decide +kernel
theorem i116_46 : ins 116 46 = some (.iand, 0, 0, 0, 0) := by decide +kernel
theorem i116_47 : ins 116 47 = some (.ifCond .ne 34, 0, 0, 0, 0) := by decide +kernel
theorem g116_47 : tg 47 (34) = 81 := by decide
theorem i116_50 : ins 116 50 = some (.aload_n 0, 0, 0, 0, 0) := by decide +kernel
theorem i116_51 : ins 116 51 = some (.iload 5, 0, 0, 0, 0) := by decide +kernel
theorem i116_53 : ins 116 53 = some (.iconst 0, 0, 0, 0, 0) := by decide +kernel
theorem i116_54 : ins 116 54 = some (.invokevirtual 109, 128, 67, 0, 0) := by decide +kernel
theorem i116_57 : ins 116 57 = some (.ifCond .ne 24, 0, 0, 0, 0) := by decide +kernel
theorem g116_57 : tg 57 (24) = 81 := by decide
theorem i116_60 : ins 116 60 = some (.iload 4, 0, 0, 0, 0) := by decide +kernel
theorem i116_62 : ins 116 62 = some (.iconst 1, 0, 0, 0, 0) := by decide +kernel
theorem i116_63 : ins 116 63 = some (.iload 5, 0, 0, 0, 0) := by decide +kernel
theorem i116_65 : ins 116 65 = some (.ishl, 0, 0, 0, 0) := by decide +kernel
theorem i116_66 : ins 116 66 = some (.ior, 0, 0, 0, 0) := by decide +kernel
theorem i116_67 : ins 116 67 = some (.istore 4, 0, 0, 0, 0) := by decide +kernel
theorem i116_69 : ins 116 69 = some (.aload_n 0, 0, 0, 0, 0) := by decide +kernel
theorem i116_70 : ins 116 70 = some (.iload 5, 0, 0, 0, 0) := by decide +kernel
theorem i116_72 : ins 116 72 = some (.iconst 1, 0, 0, 0, 0) := by decide +kernel
theorem i116_73 : ins 116 73 = some (.invokevirtual 109, 128, 67, 0, 0) := by decide +kernel
theorem i116_76 : ins 116 76 = some (.istore 5, 0, 0, 0, 0) := by decide +kernel
theorem i116_78 : ins 116 78 = some (.goto (-38), 0, 0, 0, 0) := by decide +kernel
theorem g116_78 : tg 78 (-38) = 40 := by decide
theorem i116_81 : ins 116 81 = some (.iload 4, 0, 0, 0, 0) := by decide +kernel
theorem i116_83 : ins 116 83 = some (.iload 5, 0, 0, 0, 0) := by decide +kernel
theorem i116_85 : ins 116 85 = some (.ishr, 0, 0, 0, 0) := by decide +kernel
theorem i116_86 : ins 116 86 = some (.iconst 1, 0, 0, 0, 0) := by decide +kernel
theorem i116_87 : ins 116 87 = some (.iand, 0, 0, 0, 0) := by decide +kernel
theorem i116_88 : ins 116 88 = some (.ifCond .ne 8, 0, 0, 0, 0) := by decide +kernel
theorem g116_88 : tg 88 (8) = 96 := by decide
theorem i116_91 : ins 116 91 = some (.iload 5, 0, 0, 0, 0) := by decide +kernel
theorem i116_93 : ins 116 93 = some (.goto 4, 0, 0, 0, 0) := by decide +kernel
theorem g116_93 : tg 93 (4) = 97 := by decide
theorem i116_96 : ins 116 96 = some (.iconst (-1), 0, 0, 0, 0) := by decide +kernel
theorem i116_97 : ins 116 97 = some (.istore_n 3, 0, 0, 0, 0) := by decide +kernel
theorem i116_98 : ins 116 98 = some (.iconst 5, 0, 0, 0, 0) := by decide +kernel
theorem i116_99 : ins 116 99 = some (.istore 6, 0, 0, 0, 0) := by decide +kernel
theorem i116_101 : ins 116 101 = some (.iload 6, 0, 0, 0, 0) := by decide +kernel
theorem i116_103 : ins 116 103 = some (.ifCond .lt 44, 0, 0, 0, 0) := by decide +kernel
theorem g116_103 : tg 103 (44) = 147 := by decide
theorem i116_106 : ins 116 106 = some (.iload 4, 0, 0, 0, 0) := by decide +kernel
theorem i116_108 : ins 116 108 = some (.iload 5, 0, 0, 0, 0) := by decide +kernel
theorem i116_110 : ins 116 110 = some (.ishr, 0, 0, 0, 0) := by decide +kernel
theorem i116_111 : ins 116 111 = some (.iconst 1, 0, 0, 0, 0) := by decide +kernel
theorem i116_112 : ins 116 112 = some (.iand, 0, 0, 0, 0) := by decide +kernel
theorem i116_113 : ins 116 113 = some (.iconst 1, 0, 0, 0, 0) := by decide +kernel
theorem i116_114 : ins 116 114 = some (.if_icmp .ne 33, 0, 0, 0, 0) := by decide +kernel
theorem g116_114 : tg 114 (33) = 147 := by decide
theorem i116_117 : ins 116 117 = some (.iload 6, 0, 0, 0, 0) := by decide +kernel
theorem i116_119 : ins 116 119 = some (.iload_n 2, 0, 0, 0, 0) := by decide +kernel
theorem i116_120 : ins 116 120 = some (.if_icmp .eq 19, 0, 0, 0, 0) := by decide +kernel
theorem g116_120 : tg 120 (19) = 139 := by decide
theorem i116_123 : ins 116 123 = some (.aload_n 0, 0, 0, 0, 0) := by decide +kernel
theorem i116_124 : ins 116 124 = some (.iload 6, 0, 0, 0, 0) := by decide +kernel
theorem i116_126 : ins 116 126 = some (.iconst 0, 0, 0, 0, 0) := by decide +kernel
theorem i116_127 : ins 116 127 = some (.invokevirtual 109, 128, 67, 0, 0) := by decide +kernel
theorem i116_130 : ins 116 130 = some (.iconst 1, 0, 0, 0, 0) := by decide +kernel
theorem i116_131 : ins 116 131 = some (.if_icmp .ne 8, 0, 0, 0, 0) := by decide +kernel
theorem g116_131 : tg 131 (8) = 139 := by decide
theorem i116_134 : ins 116 134 = some (.iload 6, 0, 0, 0, 0) := by decide +kernel
theorem i116_136 : ins 116 136 = some (.goto 4, 0, 0, 0, 0) := by decide +kernel
theorem g116_136 : tg 136 (4) = 140 := by decide
theorem i116_139 : ins 116 139 = some (.iload_n 3, 0, 0, 0, 0) := by decide +kernel
theorem i116_140 : ins 116 140 = some (.istore_n 3, 0, 0, 0, 0) := by decide +kernel
theorem i116_141 : ins 116 141 = some (.iinc 6 (-1), 0, 0, 0, 0) := by decide +kernel
theorem i116_144 : ins 116 144 = some (.goto (-43), 0, 0, 0, 0) := by decide +kernel
theorem g116_144 : tg 144 (-43) = 101 := by decide
theorem i116_147 : ins 116 147 = some (.aload_n 0, 0, 0, 0, 0) := by decide +kernel
theorem i116_148 : ins 116 148 = some (.iload_n 2, 0, 0, 0, 0) := by decide +kernel
theorem i116_149 : ins 116 149 = some (.invokevirtual 173, 141, 68, 0, 0) := by decide +kernel
theorem i116_152 : ins 116 152 = some (.iload_n 3, 0, 0, 0, 0) := by decide +kernel
theorem i116_153 : ins 116 153 = some (.if_icmp .ne 34, 0, 0, 0, 0) := by decide +kernel
theorem g116_153 : tg 153 (34) = 187 := by decide
theorem i116_156 : ins 116 156 = some (.aload_n 0, 0, 0, 0, 0) := by decide +kernel
theorem i116_157 : ins 116 157 = some (.iload_n 2, 0, 0, 0, 0) := by decide +kernel
theorem i116_158 : ins 116 158 = some (.invokevirtual 176, 142, 69, 0, 0) := by decide +kernel
theorem i116_161 : ins 116 161 = some (.sipush (-1015), 0, 0, 0, 0) := by decide +kernel
theorem i116_164 : ins 116 164 = some (.if_icmp .ne 7, 0, 0, 0, 0) := by decide +kernel
theorem g116_164 : tg 164 (7) = 171 := by decide
theorem i116_167 : ins 116 167 = some (.iconst 1, 0, 0, 0, 0) := by decide +kernel
theorem i116_168 : ins 116 168 = some (.goto 4, 0, 0, 0, 0) := by decide +kernel
theorem g116_168 : tg 168 (4) = 172 := by decide
theorem i116_171 : ins 116 171 = some (.iconst 0, 0, 0, 0, 0) := by decide +kernel
theorem i116_172 : ins 116 172 = some (.iload_n 3, 0, 0, 0, 0) := by decide +kernel
theorem i116_173 : ins 116 173 = some (.sipush (-1015), 0, 0, 0, 0) := by decide +kernel
theorem i116_176 : ins 116 176 = some (.if_icmp .ne 7, 0, 0, 0, 0) := by decide +kernel
theorem g116_176 : tg 176 (7) = 183 := by decide
theorem i116_179 : ins 116 179 = some (.iconst 1, 0, 0, 0, 0) := by decide +kernel
theorem i116_180 : ins 116 180 = some (.goto 4, 0, 0, 0, 0) := by decide +kernel
theorem g116_180 : tg 180 (4) = 184 := by decide
theorem i116_183 : ins 116 183 = some (.iconst 0, 0, 0, 0, 0) := by decide +kernel
theorem i116_184 : ins 116 184 = some (.if_icmp .eq 5, 0, 0, 0, 0) := by decide +kernel
theorem g116_184 : tg 184 (5) = 189 := by decide
theorem i116_187 : ins 116 187 = some (.iconst 0, 0, 0, 0, 0) := by decide +kernel
theorem i116_188 : ins 116 188 = some (.ireturn, 0, 0, 0, 0) := by decide +kernel
theorem i116_189 : ins 116 189 = some (.iinc 2 1, 0, 0, 0, 0) := by decide +kernel
theorem i116_192 : ins 116 192 = some (.goto (-190), 0, 0, 0, 0) := by decide +kernel
theorem g116_192 : tg 192 (-190) = 2 := by decide
theorem i116_195 : ins 116 195 = some (.iconst 1, 0, 0, 0, 0) := by decide +kernel
theorem i116_196 : ins 116 196 = some (.ireturn, 0, 0, 0, 0) := by decide +kernel
theorem c117 : 117 < mnames ∧ nA 117 = 2 ∧ nS 117 = 1 := by decide +kernel
theorem m117 : (117 ≠ ensK ∧ 117 < mnames) ∧ nA 117 = 2 ∧ nL 117 = 21 := by decide +kernel
theorem r117 : nR 117 = (some .boolean) := by decide +kernel
theorem i117_0 : ins 117 0 = some (.aload_n 0, 0, 0, 0, 0) := by decide +kernel
theorem i117_1 : ins 117 1 = some (.invokevirtual 179, 143, 83, 0, 0) := by decide +kernel
theorem i117_4 : ins 117 4 = some (.istore_n 2, 0, 0, 0, 0) := by decide +kernel
theorem i117_5 : ins 117 5 = some (.iconst 1, 0, 0, 0, 0) := by decide +kernel
theorem i117_6 : ins 117 6 = some (.istore_n 3, 0, 0, 0, 0) := by decide +kernel
theorem i117_7 : ins 117 7 = some (.aload_n 1, 0, 0, 0, 0) := by decide +kernel
theorem i117_8 : ins 117 8 = some (.bipush 6, 0, 0, 0, 0) := by decide +kernel
theorem i117_10 : ins 117 10 = some (.invokevirtual 23, 103, 119, 0, 0) := by decide +kernel
theorem i117_13 : ins 117 13 = some (.istore 4, 0, 0, 0, 0) := by decide +kernel
theorem i117_15 : ins 117 15 = some (.aload_n 0, 0, 0, 0, 0) := by decide +kernel
theorem i117_16 : ins 117 16 = some (.iload 4, 0, 0, 0, 0) := by decide +kernel
theorem i117_18 : ins 117 18 = some (.invokevirtual 173, 141, 68, 0, 0) := by decide +kernel
theorem i117_21 : ins 117 21 = some (.istore 5, 0, 0, 0, 0) := by decide +kernel
theorem i117_23 : ins 117 23 = some (.aload_n 0, 0, 0, 0, 0) := by decide +kernel
theorem i117_24 : ins 117 24 = some (.iload 4, 0, 0, 0, 0) := by decide +kernel
theorem i117_26 : ins 117 26 = some (.invokevirtual 176, 142, 69, 0, 0) := by decide +kernel
theorem i117_29 : ins 117 29 = some (.istore 6, 0, 0, 0, 0) := by decide +kernel
theorem i117_31 : ins 117 31 = some (.aload_n 0, 0, 0, 0, 0) := by decide +kernel
theorem i117_32 : ins 117 32 = some (.iconst 1, 0, 0, 0, 0) := by decide +kernel
theorem i117_33 : ins 117 33 = some (.invokevirtual 40, 106, 80, 0, 0) := by decide +kernel
theorem i117_36 : ins 117 36 = some (.istore 7, 0, 0, 0, 0) := by decide +kernel
theorem i117_38 : ins 117 38 = some (.aload_n 0, 0, 0, 0, 0) := by decide +kernel
theorem i117_39 : ins 117 39 = some (.iconst 3, 0, 0, 0, 0) := by decide +kernel
theorem i117_40 : ins 117 40 = some (.invokevirtual 40, 106, 80, 0, 0) := by decide +kernel
theorem i117_43 : ins 117 43 = some (.aload_n 0, 0, 0, 0, 0) := by decide +kernel
theorem i117_44 : ins 117 44 = some (.iconst 4, 0, 0, 0, 0) := by decide +kernel
theorem i117_45 : ins 117 45 = some (.invokevirtual 40, 106, 80, 0, 0) := by decide +kernel
theorem i117_48 : ins 117 48 = some (.iadd, 0, 0, 0, 0) := by decide +kernel
theorem i117_49 : ins 117 49 = some (.aload_n 0, 0, 0, 0, 0) := by decide +kernel
theorem i117_50 : ins 117 50 = some (.iconst 5, 0, 0, 0, 0) := by decide +kernel
theorem i117_51 : ins 117 51 = some (.invokevirtual 40, 106, 80, 0, 0) := by decide +kernel
theorem i117_54 : ins 117 54 = some (.iadd, 0, 0, 0, 0) := by decide +kernel
theorem i117_55 : ins 117 55 = some (.istore 8, 0, 0, 0, 0) := by decide +kernel
theorem i117_57 : ins 117 57 = some (.aload_n 0, 0, 0, 0, 0) := by decide +kernel
theorem i117_58 : ins 117 58 = some (.iload 4, 0, 0, 0, 0) := by decide +kernel
theorem i117_60 : ins 117 60 = some (.invokevirtual 68, 115, 65, 0, 0) := by decide +kernel
theorem i117_63 : ins 117 63 = some (.istore 9, 0, 0, 0, 0) := by decide +kernel
theorem i117_65 : ins 117 65 = some (.iload_n 3, 0, 0, 0, 0) := by decide +kernel
theorem i117_66 : ins 117 66 = some (.iload 5, 0, 0, 0, 0) := by decide +kernel
theorem i117_68 : ins 117 68 = some (.sipush (-1015), 0, 0, 0, 0) := by decide +kernel
theorem i117_71 : ins 117 71 = some (.if_icmp .ne 51, 0, 0, 0, 0) := by decide +kernel
theorem g117_71 : tg 71 (51) = 122 := by decide
theorem i117_74 : ins 117 74 = some (.iload 9, 0, 0, 0, 0) := by decide +kernel
theorem i117_76 : ins 117 76 = some (.sipush (-1014), 0, 0, 0, 0) := by decide +kernel
theorem i117_79 : ins 117 79 = some (.if_icmp .ne 39, 0, 0, 0, 0) := by decide +kernel
theorem g117_79 : tg 79 (39) = 118 := by decide
theorem i117_82 : ins 117 82 = some (.aload_n 0, 0, 0, 0, 0) := by decide +kernel
theorem i117_83 : ins 117 83 = some (.iconst 0, 0, 0, 0, 0) := by decide +kernel
theorem i117_84 : ins 117 84 = some (.iconst 0, 0, 0, 0, 0) := by decide +kernel
theorem i117_85 : ins 117 85 = some (.invokevirtual 182, 144, 79, 0, 0) := by decide +kernel
theorem i117_88 : ins 117 88 = some (.iconst 2, 0, 0, 0, 0) := by decide +kernel
theorem i117_89 : ins 117 89 = some (.if_icmp .eq 14, 0, 0, 0, 0) := by decide +kernel
theorem g117_89 : tg 89 (14) = 103 := by decide
theorem i117_92 : ins 117 92 = some (.aload_n 0, 0, 0, 0, 0) := by decide +kernel
theorem i117_93 : ins 117 93 = some (.iconst 0, 0, 0, 0, 0) := by decide +kernel
theorem i117_94 : ins 117 94 = some (.iconst 0, 0, 0, 0, 0) := by decide +kernel
theorem i117_95 : ins 117 95 = some (.invokevirtual 182, 144, 79, 0, 0) := by decide +kernel
theorem i117_98 : ins 117 98 = some (.bipush 15, 0, 0, 0, 0) := by decide +kernel
theorem i117_100 : ins 117 100 = some (.if_icmp .ne 18, 0, 0, 0, 0) := by decide +kernel
theorem g117_100 : tg 100 (18) = 118 := by decide
theorem i117_103 : ins 117 103 = some (.aload_n 0, 0, 0, 0, 0) := by decide +kernel
theorem i117_104 : ins 117 104 = some (.iconst 0, 0, 0, 0, 0) := by decide +kernel
theorem i117_105 : ins 117 105 = some (.iconst 1, 0, 0, 0, 0) := by decide +kernel
theorem i117_106 : ins 117 106 = some (.invokevirtual 182, 144, 79, 0, 0) := by decide +kernel
theorem i117_109 : ins 117 109 = some (.iload 4, 0, 0, 0, 0) := by decide +kernel
theorem i117_111 : ins 117 111 = some (.if_icmp .ne 7, 0, 0, 0, 0) := by decide +kernel
theorem g117_111 : tg 111 (7) = 118 := by decide
theorem i117_114 : ins 117 114 = some (.iconst 1, 0, 0, 0, 0) := by decide +kernel
theorem i117_115 : ins 117 115 = some (.goto 75, 0, 0, 0, 0) := by decide +kernel
theorem g117_115 : tg 115 (75) = 190 := by decide
theorem i117_118 : ins 117 118 = some (.iconst 0, 0, 0, 0, 0) := by decide +kernel
theorem i117_119 : ins 117 119 = some (.goto 71, 0, 0, 0, 0) := by decide +kernel
theorem g117_119 : tg 119 (71) = 190 := by decide
theorem i117_122 : ins 117 122 = some (.iload 9, 0, 0, 0, 0) := by decide +kernel
theorem i117_124 : ins 117 124 = some (.iload 5, 0, 0, 0, 0) := by decide +kernel
theorem i117_126 : ins 117 126 = some (.if_icmp .ne 63, 0, 0, 0, 0) := by decide +kernel
theorem g117_126 : tg 126 (63) = 189 := by decide
theorem i117_129 : ins 117 129 = some (.aload_n 0, 0, 0, 0, 0) := by decide +kernel
theorem i117_130 : ins 117 130 = some (.iconst 0, 0, 0, 0, 0) := by decide +kernel
theorem i117_131 : ins 117 131 = some (.invokevirtual 40, 106, 80, 0, 0) := by decide +kernel
theorem i117_134 : ins 117 134 = some (.iload_n 2, 0, 0, 0, 0) := by decide +kernel
theorem i117_135 : ins 117 135 = some (.iload 6, 0, 0, 0, 0) := by decide +kernel
theorem i117_137 : ins 117 137 = some (.isub, 0, 0, 0, 0) := by decide +kernel
theorem i117_138 : ins 117 138 = some (.if_icmp .ne 51, 0, 0, 0, 0) := by decide +kernel
theorem g117_138 : tg 138 (51) = 189 := by decide
theorem i117_141 : ins 117 141 = some (.aload_n 0, 0, 0, 0, 0) := by decide +kernel
theorem i117_142 : ins 117 142 = some (.iconst 1, 0, 0, 0, 0) := by decide +kernel
theorem i117_143 : ins 117 143 = some (.invokevirtual 40, 106, 80, 0, 0) := by decide +kernel
theorem i117_146 : ins 117 146 = some (.iload 7, 0, 0, 0, 0) := by decide +kernel
theorem i117_148 : ins 117 148 = some (.iconst 1, 0, 0, 0, 0) := by decide +kernel
theorem i117_149 : ins 117 149 = some (.isub, 0, 0, 0, 0) := by decide +kernel
theorem i117_150 : ins 117 150 = some (.if_icmp .ne 39, 0, 0, 0, 0) := by decide +kernel
theorem g117_150 : tg 150 (39) = 189 := by decide
theorem i117_153 : ins 117 153 = some (.aload_n 0, 0, 0, 0, 0) := by decide +kernel
theorem i117_154 : ins 117 154 = some (.iload 4, 0, 0, 0, 0) := by decide +kernel
theorem i117_156 : ins 117 156 = some (.iconst 0, 0, 0, 0, 0) := by decide +kernel
theorem i117_157 : ins 117 157 = some (.invokevirtual 109, 128, 67, 0, 0) := by decide +kernel
theorem i117_160 : ins 117 160 = some (.ifCond .ne 29, 0, 0, 0, 0) := by decide +kernel
theorem g117_160 : tg 160 (29) = 189 := by decide
theorem i117_163 : ins 117 163 = some (.aload_n 0, 0, 0, 0, 0) := by decide +kernel
theorem i117_164 : ins 117 164 = some (.iconst 3, 0, 0, 0, 0) := by decide +kernel
theorem i117_165 : ins 117 165 = some (.invokevirtual 40, 106, 80, 0, 0) := by decide +kernel
theorem i117_168 : ins 117 168 = some (.aload_n 0, 0, 0, 0, 0) := by decide +kernel
theorem i117_169 : ins 117 169 = some (.iconst 4, 0, 0, 0, 0) := by decide +kernel
theorem i117_170 : ins 117 170 = some (.invokevirtual 40, 106, 80, 0, 0) := by decide +kernel
theorem i117_173 : ins 117 173 = some (.iadd, 0, 0, 0, 0) := by decide +kernel
theorem i117_174 : ins 117 174 = some (.aload_n 0, 0, 0, 0, 0) := by decide +kernel
theorem i117_175 : ins 117 175 = some (.iconst 5, 0, 0, 0, 0) := by decide +kernel
theorem i117_176 : ins 117 176 = some (.invokevirtual 40, 106, 80, 0, 0) := by decide +kernel
theorem i117_179 : ins 117 179 = some (.iadd, 0, 0, 0, 0) := by decide +kernel
theorem i117_180 : ins 117 180 = some (.iload 8, 0, 0, 0, 0) := by decide +kernel
theorem i117_182 : ins 117 182 = some (.if_icmp .ne 7, 0, 0, 0, 0) := by decide +kernel
theorem g117_182 : tg 182 (7) = 189 := by decide
theorem i117_185 : ins 117 185 = some (.iconst 1, 0, 0, 0, 0) := by decide +kernel
theorem i117_186 : ins 117 186 = some (.goto 4, 0, 0, 0, 0) := by decide +kernel
theorem g117_186 : tg 186 (4) = 190 := by decide
theorem i117_189 : ins 117 189 = some (.iconst 0, 0, 0, 0, 0) := by decide +kernel
theorem i117_190 : ins 117 190 = some (.iand, 0, 0, 0, 0) := by decide +kernel
theorem i117_191 : ins 117 191 = some (.istore_n 3, 0, 0, 0, 0) := by decide +kernel
theorem i117_192 : ins 117 192 = some (.iload_n 3, 0, 0, 0, 0) := by decide +kernel
theorem i117_193 : ins 117 193 = some (.aload_n 0, 0, 0, 0, 0) := by decide +kernel
theorem i117_194 : ins 117 194 = some (.invokevirtual 186, 145, 84, 0, 0) := by decide +kernel
theorem i117_197 : ins 117 197 = some (.iload_n 2, 0, 0, 0, 0) := by decide +kernel
theorem i117_198 : ins 117 198 = some (.if_icmp .ne 7, 0, 0, 0, 0) := by decide +kernel
theorem g117_198 : tg 198 (7) = 205 := by decide
theorem i117_201 : ins 117 201 = some (.iconst 1, 0, 0, 0, 0) := by decide +kernel
theorem i117_202 : ins 117 202 = some (.goto 4, 0, 0, 0, 0) := by decide +kernel
theorem g117_202 : tg 202 (4) = 206 := by decide
theorem i117_205 : ins 117 205 = some (.iconst 0, 0, 0, 0, 0) := by decide +kernel
theorem i117_206 : ins 117 206 = some (.iand, 0, 0, 0, 0) := by decide +kernel
theorem i117_207 : ins 117 207 = some (.istore_n 3, 0, 0, 0, 0) := by decide +kernel
theorem i117_208 : ins 117 208 = some (.bipush 6, 0, 0, 0, 0) := by decide +kernel
theorem i117_210 : ins 117 210 = some (.newarray .int, 0, 0, 0, 0) := by decide +kernel
theorem i117_212 : ins 117 212 = some (.astore 10, 0, 0, 0, 0) := by decide +kernel
theorem i117_214 : ins 117 214 = some (.iconst 0, 0, 0, 0, 0) := by decide +kernel
theorem i117_215 : ins 117 215 = some (.istore 11, 0, 0, 0, 0) := by decide +kernel
theorem i117_217 : ins 117 217 = some (.iconst 0, 0, 0, 0, 0) := by decide +kernel
theorem i117_218 : ins 117 218 = some (.istore 12, 0, 0, 0, 0) := by decide +kernel
theorem i117_220 : ins 117 220 = some (.iload 12, 0, 0, 0, 0) := by decide +kernel
theorem i117_222 : ins 117 222 = some (.bipush 6, 0, 0, 0, 0) := by decide +kernel
theorem i117_224 : ins 117 224 = some (.if_icmp .ge 47, 0, 0, 0, 0) := by decide +kernel
theorem g117_224 : tg 224 (47) = 271 := by decide
theorem i117_227 : ins 117 227 = some (.aload 10, 0, 0, 0, 0) := by decide +kernel
theorem i117_229 : ins 117 229 = some (.iload 12, 0, 0, 0, 0) := by decide +kernel
theorem i117_231 : ins 117 231 = some (.aload_n 0, 0, 0, 0, 0) := by decide +kernel
theorem i117_232 : ins 117 232 = some (.iload 12, 0, 0, 0, 0) := by decide +kernel
theorem i117_234 : ins 117 234 = some (.iconst 2, 0, 0, 0, 0) := by decide +kernel
theorem i117_235 : ins 117 235 = some (.invokevirtual 109, 128, 67, 0, 0) := by decide +kernel
theorem i117_238 : ins 117 238 = some (.aload_n 0, 0, 0, 0, 0) := by decide +kernel
theorem i117_239 : ins 117 239 = some (.iload 12, 0, 0, 0, 0) := by decide +kernel
theorem i117_241 : ins 117 241 = some (.invokevirtual 167, 139, 61, 0, 0) := by decide +kernel
theorem i117_244 : ins 117 244 = some (.iadd, 0, 0, 0, 0) := by decide +kernel
theorem i117_245 : ins 117 245 = some (.iastore, 0, 0, 0, 0) := by decide +kernel
theorem i117_246 : ins 117 246 = some (.iload 11, 0, 0, 0, 0) := by decide +kernel
theorem i117_248 : ins 117 248 = some (.aload_n 0, 0, 0, 0, 0) := by decide +kernel
theorem i117_249 : ins 117 249 = some (.iload 12, 0, 0, 0, 0) := by decide +kernel
theorem i117_251 : ins 117 251 = some (.invokevirtual 167, 139, 61, 0, 0) := by decide +kernel
theorem i117_254 : ins 117 254 = some (.ifCond .le 7, 0, 0, 0, 0) := by decide +kernel
theorem g117_254 : tg 254 (7) = 261 := by decide
theorem i117_257 : ins 117 257 = some (.iconst 1, 0, 0, 0, 0) := by decide +kernel
theorem i117_258 : ins 117 258 = some (.goto 4, 0, 0, 0, 0) := by decide +kernel
theorem g117_258 : tg 258 (4) = 262 := by decide
theorem i117_261 : ins 117 261 = some (.iconst 0, 0, 0, 0, 0) := by decide +kernel
theorem i117_262 : ins 117 262 = some (.iadd, 0, 0, 0, 0) := by decide +kernel
theorem i117_263 : ins 117 263 = some (.istore 11, 0, 0, 0, 0) := by decide +kernel
theorem i117_265 : ins 117 265 = some (.iinc 12 1, 0, 0, 0, 0) := by decide +kernel
theorem i117_268 : ins 117 268 = some (.goto (-48), 0, 0, 0, 0) := by decide +kernel
theorem g117_268 : tg 268 (-48) = 220 := by decide
theorem i117_271 : ins 117 271 = some (.aload_n 0, 0, 0, 0, 0) := by decide +kernel
theorem i117_272 : ins 117 272 = some (.iconst 5, 0, 0, 0, 0) := by decide +kernel
theorem i117_273 : ins 117 273 = some (.invokevirtual 40, 106, 80, 0, 0) := by decide +kernel
theorem i117_276 : ins 117 276 = some (.istore 12, 0, 0, 0, 0) := by decide +kernel
theorem i117_278 : ins 117 278 = some (.aload_n 0, 0, 0, 0, 0) := by decide +kernel
theorem i117_279 : ins 117 279 = some (.invokevirtual 59, 112, 60, 0, 0) := by decide +kernel
theorem i117_282 : ins 117 282 = some (.istore 9, 0, 0, 0, 0) := by decide +kernel
theorem i117_284 : ins 117 284 = some (.iload_n 3, 0, 0, 0, 0) := by decide +kernel
theorem i117_285 : ins 117 285 = some (.iload 12, 0, 0, 0, 0) := by decide +kernel
theorem i117_287 : ins 117 287 = some (.ifCond .ne 40, 0, 0, 0, 0) := by decide +kernel
theorem g117_287 : tg 287 (40) = 327 := by decide
theorem i117_290 : ins 117 290 = some (.iload 9, 0, 0, 0, 0) := by decide +kernel
theorem i117_292 : ins 117 292 = some (.sipush (-1014), 0, 0, 0, 0) := by decide +kernel
theorem i117_295 : ins 117 295 = some (.if_icmp .ne 28, 0, 0, 0, 0) := by decide +kernel
theorem g117_295 : tg 295 (28) = 323 := by decide
theorem i117_298 : ins 117 298 = some (.aload_n 0, 0, 0, 0, 0) := by decide +kernel
theorem i117_299 : ins 117 299 = some (.iconst 0, 0, 0, 0, 0) := by decide +kernel
theorem i117_300 : ins 117 300 = some (.iconst 0, 0, 0, 0, 0) := by decide +kernel
theorem i117_301 : ins 117 301 = some (.invokevirtual 182, 144, 79, 0, 0) := by decide +kernel
theorem i117_304 : ins 117 304 = some (.bipush 11, 0, 0, 0, 0) := by decide +kernel
theorem i117_306 : ins 117 306 = some (.if_icmp .ne 17, 0, 0, 0, 0) := by decide +kernel
theorem g117_306 : tg 306 (17) = 323 := by decide
theorem i117_309 : ins 117 309 = some (.aload_n 0, 0, 0, 0, 0) := by decide +kernel
theorem i117_310 : ins 117 310 = some (.iconst 0, 0, 0, 0, 0) := by decide +kernel
theorem i117_311 : ins 117 311 = some (.iconst 1, 0, 0, 0, 0) := by decide +kernel
theorem i117_312 : ins 117 312 = some (.invokevirtual 182, 144, 79, 0, 0) := by decide +kernel
theorem i117_315 : ins 117 315 = some (.iload_n 2, 0, 0, 0, 0) := by decide +kernel
theorem i117_316 : ins 117 316 = some (.if_icmp .ne 7, 0, 0, 0, 0) := by decide +kernel
theorem g117_316 : tg 316 (7) = 323 := by decide
theorem i117_319 : ins 117 319 = some (.iconst 1, 0, 0, 0, 0) := by decide +kernel
theorem i117_320 : ins 117 320 = some (.goto 19, 0, 0, 0, 0) := by decide +kernel
theorem g117_320 : tg 320 (19) = 339 := by decide
theorem i117_323 : ins 117 323 = some (.iconst 0, 0, 0, 0, 0) := by decide +kernel
theorem i117_324 : ins 117 324 = some (.goto 15, 0, 0, 0, 0) := by decide +kernel
theorem g117_324 : tg 324 (15) = 339 := by decide
theorem i117_327 : ins 117 327 = some (.iload 9, 0, 0, 0, 0) := by decide +kernel
theorem i117_329 : ins 117 329 = some (.iload 11, 0, 0, 0, 0) := by decide +kernel
theorem i117_331 : ins 117 331 = some (.if_icmp .ne 7, 0, 0, 0, 0) := by decide +kernel
theorem g117_331 : tg 331 (7) = 338 := by decide
theorem i117_334 : ins 117 334 = some (.iconst 1, 0, 0, 0, 0) := by decide +kernel
theorem i117_335 : ins 117 335 = some (.goto 4, 0, 0, 0, 0) := by decide +kernel
theorem g117_335 : tg 335 (4) = 339 := by decide
theorem i117_338 : ins 117 338 = some (.iconst 0, 0, 0, 0, 0) := by decide +kernel
theorem i117_339 : ins 117 339 = some (.iand, 0, 0, 0, 0) := by decide +kernel
theorem i117_340 : ins 117 340 = some (.istore_n 3, 0, 0, 0, 0) := by decide +kernel
theorem i117_341 : ins 117 341 = some (.iconst 0, 0, 0, 0, 0) := by decide +kernel
theorem i117_342 : ins 117 342 = some (.istore 13, 0, 0, 0, 0) := by decide +kernel
theorem i117_344 : ins 117 344 = some (.iload 13, 0, 0, 0, 0) := by decide +kernel
theorem i117_346 : ins 117 346 = some (.bipush 6, 0, 0, 0, 0) := by decide +kernel
theorem i117_348 : ins 117 348 = some (.if_icmp .ge 32, 0, 0, 0, 0) := by decide +kernel
theorem g117_348 : tg 348 (32) = 380 := by decide
theorem i117_351 : ins 117 351 = some (.iload_n 3, 0, 0, 0, 0) := by decide +kernel
theorem i117_352 : ins 117 352 = some (.aload_n 0, 0, 0, 0, 0) := by decide +kernel
theorem i117_353 : ins 117 353 = some (.iload 13, 0, 0, 0, 0) := by decide +kernel
theorem i117_355 : ins 117 355 = some (.iconst 2, 0, 0, 0, 0) := by decide +kernel
theorem i117_356 : ins 117 356 = some (.invokevirtual 109, 128, 67, 0, 0) := by decide +kernel
theorem i117_359 : ins 117 359 = some (.aload 10, 0, 0, 0, 0) := by decide +kernel
theorem i117_361 : ins 117 361 = some (.iload 13, 0, 0, 0, 0) := by decide +kernel
theorem i117_363 : ins 117 363 = some (.iaload, 0, 0, 0, 0) := by decide +kernel
theorem i117_364 : ins 117 364 = some (.if_icmp .ne 7, 0, 0, 0, 0) := by decide +kernel
theorem g117_364 : tg 364 (7) = 371 := by decide
theorem i117_367 : ins 117 367 = some (.iconst 1, 0, 0, 0, 0) := by decide +kernel
theorem i117_368 : ins 117 368 = some (.goto 4, 0, 0, 0, 0) := by decide +kernel
theorem g117_368 : tg 368 (4) = 372 := by decide
theorem i117_371 : ins 117 371 = some (.iconst 0, 0, 0, 0, 0) := by decide +kernel
theorem i117_372 : ins 117 372 = some (.iand, 0, 0, 0, 0) := by decide +kernel
theorem i117_373 : ins 117 373 = some (.istore_n 3, 0, 0, 0, 0) := by decide +kernel
theorem i117_374 : ins 117 374 = some (.iinc 13 1, 0, 0, 0, 0) := by decide +kernel
theorem i117_377 : ins 117 377 = some (.goto (-33), 0, 0, 0, 0) := by decide +kernel
theorem g117_377 : tg 377 (-33) = 344 := by decide
theorem i117_380 : ins 117 380 = some (.iload_n 3, 0, 0, 0, 0) := by decide +kernel
theorem i117_381 : ins 117 381 = some (.aload_n 0, 0, 0, 0, 0) := by decide +kernel
theorem i117_382 : ins 117 382 = some (.invokevirtual 186, 145, 84, 0, 0) := by decide +kernel
theorem i117_385 : ins 117 385 = some (.iload_n 2, 0, 0, 0, 0) := by decide +kernel
theorem i117_386 : ins 117 386 = some (.if_icmp .ne 7, 0, 0, 0, 0) := by decide +kernel
theorem g117_386 : tg 386 (7) = 393 := by decide
theorem i117_389 : ins 117 389 = some (.iconst 1, 0, 0, 0, 0) := by decide +kernel
theorem i117_390 : ins 117 390 = some (.goto 4, 0, 0, 0, 0) := by decide +kernel
theorem g117_390 : tg 390 (4) = 394 := by decide
theorem i117_393 : ins 117 393 = some (.iconst 0, 0, 0, 0, 0) := by decide +kernel
theorem i117_394 : ins 117 394 = some (.iand, 0, 0, 0, 0) := by decide +kernel
theorem i117_395 : ins 117 395 = some (.istore_n 3, 0, 0, 0, 0) := by decide +kernel
theorem i117_396 : ins 117 396 = some (.iload_n 2, 0, 0, 0, 0) := by decide +kernel
theorem i117_397 : ins 117 397 = some (.ifCond .le 254, 0, 0, 0, 0) := by decide +kernel
theorem g117_397 : tg 397 (254) = 651 := by decide
theorem i117_400 : ins 117 400 = some (.aload_n 1, 0, 0, 0, 0) := by decide +kernel
theorem i117_401 : ins 117 401 = some (.iload_n 2, 0, 0, 0, 0) := by decide +kernel
theorem i117_402 : ins 117 402 = some (.invokevirtual 23, 103, 119, 0, 0) := by decide +kernel
theorem i117_405 : ins 117 405 = some (.istore 13, 0, 0, 0, 0) := by decide +kernel
theorem i117_407 : ins 117 407 = some (.iconst 1, 0, 0, 0, 0) := by decide +kernel
theorem i117_408 : ins 117 408 = some (.aload_n 1, 0, 0, 0, 0) := by decide +kernel
theorem i117_409 : ins 117 409 = some (.iconst 5, 0, 0, 0, 0) := by decide +kernel
theorem i117_410 : ins 117 410 = some (.invokevirtual 23, 103, 119, 0, 0) := by decide +kernel
theorem i117_413 : ins 117 413 = some (.iadd, 0, 0, 0, 0) := by decide +kernel
theorem i117_414 : ins 117 414 = some (.istore 14, 0, 0, 0, 0) := by decide +kernel
theorem i117_416 : ins 117 416 = some (.aload_n 0, 0, 0, 0, 0) := by decide +kernel
theorem i117_417 : ins 117 417 = some (.iload 13, 0, 0, 0, 0) := by decide +kernel
theorem i117_419 : ins 117 419 = some (.iconst 1, 0, 0, 0, 0) := by decide +kernel
theorem i117_420 : ins 117 420 = some (.invokevirtual 106, 127, 58, 0, 0) := by decide +kernel
theorem i117_423 : ins 117 423 = some (.istore 15, 0, 0, 0, 0) := by decide +kernel
theorem i117_425 : ins 117 425 = some (.aload_n 0, 0, 0, 0, 0) := by decide +kernel
theorem i117_426 : ins 117 426 = some (.iload 13, 0, 0, 0, 0) := by decide +kernel
theorem i117_428 : ins 117 428 = some (.iconst 5, 0, 0, 0, 0) := by decide +kernel
theorem i117_429 : ins 117 429 = some (.invokevirtual 106, 127, 58, 0, 0) := by decide +kernel
theorem i117_432 : ins 117 432 = some (.istore 16, 0, 0, 0, 0) := by decide +kernel
theorem i117_434 : ins 117 434 = some (.aload_n 0, 0, 0, 0, 0) := by decide +kernel
theorem i117_435 : ins 117 435 = some (.iload 13, 0, 0, 0, 0) := by decide +kernel
theorem i117_437 : ins 117 437 = some (.iconst 4, 0, 0, 0, 0) := by decide +kernel
theorem i117_438 : ins 117 438 = some (.invokevirtual 106, 127, 58, 0, 0) := by decide +kernel
theorem i117_441 : ins 117 441 = some (.iload 14, 0, 0, 0, 0) := by decide +kernel
theorem i117_443 : ins 117 443 = some (.aload_n 0, 0, 0, 0, 0) := by decide +kernel
theorem i117_444 : ins 117 444 = some (.iload 13, 0, 0, 0, 0) := by decide +kernel
theorem i117_446 : ins 117 446 = some (.iconst 2, 0, 0, 0, 0) := by decide +kernel
theorem i117_447 : ins 117 447 = some (.invokevirtual 106, 127, 58, 0, 0) := by decide +kernel
theorem i117_450 : ins 117 450 = some (.imul, 0, 0, 0, 0) := by decide +kernel
theorem i117_451 : ins 117 451 = some (.invokestatic 189, 146, 202, 1, 0) := by decide +kernel
theorem i117_454 : ins 117 454 = some (.istore 17, 0, 0, 0, 0) := by decide +kernel
theorem i117_456 : ins 117 456 = some (.aload_n 0, 0, 0, 0, 0) := by decide +kernel
theorem i117_457 : ins 117 457 = some (.bipush 8, 0, 0, 0, 0) := by decide +kernel
theorem i117_459 : ins 117 459 = some (.invokevirtual 40, 106, 80, 0, 0) := by decide +kernel
theorem i117_462 : ins 117 462 = some (.istore 18, 0, 0, 0, 0) := by decide +kernel
theorem i117_464 : ins 117 464 = some (.aload_n 0, 0, 0, 0, 0) := by decide +kernel
theorem i117_465 : ins 117 465 = some (.iload 13, 0, 0, 0, 0) := by decide +kernel
theorem i117_467 : ins 117 467 = some (.iconst 2, 0, 0, 0, 0) := by decide +kernel
theorem i117_468 : ins 117 468 = some (.invokevirtual 106, 127, 58, 0, 0) := by decide +kernel
theorem i117_471 : ins 117 471 = some (.istore 19, 0, 0, 0, 0) := by decide +kernel
theorem i117_473 : ins 117 473 = some (.aload_n 0, 0, 0, 0, 0) := by decide +kernel
theorem i117_474 : ins 117 474 = some (.iload 13, 0, 0, 0, 0) := by decide +kernel
theorem i117_476 : ins 117 476 = some (.iload 14, 0, 0, 0, 0) := by decide +kernel
theorem i117_478 : ins 117 478 = some (.invokevirtual 47, 108, 55, 0, 0) := by decide +kernel
theorem i117_481 : ins 117 481 = some (.istore 9, 0, 0, 0, 0) := by decide +kernel
theorem i117_483 : ins 117 483 = some (.iload 16, 0, 0, 0, 0) := by decide +kernel
theorem i117_485 : ins 117 485 = some (.ifCond .gt 10, 0, 0, 0, 0) := by decide +kernel
theorem g117_485 : tg 485 (10) = 495 := by decide
theorem i117_488 : ins 117 488 = some (.iload 15, 0, 0, 0, 0) := by decide +kernel
theorem i117_490 : ins 117 490 = some (.iload 14, 0, 0, 0, 0) := by decide +kernel
theorem i117_492 : ins 117 492 = some (.if_icmp .ge 7, 0, 0, 0, 0) := by decide +kernel
theorem g117_492 : tg 492 (7) = 499 := by decide
theorem i117_495 : ins 117 495 = some (.iconst 1, 0, 0, 0, 0) := by decide +kernel
theorem i117_496 : ins 117 496 = some (.goto 4, 0, 0, 0, 0) := by decide +kernel
theorem g117_496 : tg 496 (4) = 500 := by decide
theorem i117_499 : ins 117 499 = some (.iconst 0, 0, 0, 0, 0) := by decide +kernel
theorem i117_500 : ins 117 500 = some (.istore 20, 0, 0, 0, 0) := by decide +kernel
theorem i117_502 : ins 117 502 = some (.iload_n 3, 0, 0, 0, 0) := by decide +kernel
theorem i117_503 : ins 117 503 = some (.iload 20, 0, 0, 0, 0) := by decide +kernel
theorem i117_505 : ins 117 505 = some (.ifCond .eq 93, 0, 0, 0, 0) := by decide +kernel
theorem g117_505 : tg 505 (93) = 598 := by decide
theorem i117_508 : ins 117 508 = some (.iload 9, 0, 0, 0, 0) := by decide +kernel
theorem i117_510 : ins 117 510 = some (.sipush (-1014), 0, 0, 0, 0) := by decide +kernel
theorem i117_513 : ins 117 513 = some (.if_icmp .ne 81, 0, 0, 0, 0) := by decide +kernel
theorem g117_513 : tg 513 (81) = 594 := by decide
theorem i117_516 : ins 117 516 = some (.aload_n 0, 0, 0, 0, 0) := by decide +kernel
theorem i117_517 : ins 117 517 = some (.iconst 0, 0, 0, 0, 0) := by decide +kernel
theorem i117_518 : ins 117 518 = some (.iconst 0, 0, 0, 0, 0) := by decide +kernel
theorem i117_519 : ins 117 519 = some (.invokevirtual 182, 144, 79, 0, 0) := by decide +kernel
theorem i117_522 : ins 117 522 = some (.iconst 4, 0, 0, 0, 0) := by decide +kernel
theorem i117_523 : ins 117 523 = some (.if_icmp .ne 71, 0, 0, 0, 0) := by decide +kernel
theorem g117_523 : tg 523 (71) = 594 := by decide
theorem i117_526 : ins 117 526 = some (.aload_n 0, 0, 0, 0, 0) := by decide +kernel
theorem i117_527 : ins 117 527 = some (.iconst 0, 0, 0, 0, 0) := by decide +kernel
theorem i117_528 : ins 117 528 = some (.iconst 1, 0, 0, 0, 0) := by decide +kernel
theorem i117_529 : ins 117 529 = some (.invokevirtual 182, 144, 79, 0, 0) := by decide +kernel
theorem i117_532 : ins 117 532 = some (.iload 13, 0, 0, 0, 0) := by decide +kernel
theorem i117_534 : ins 117 534 = some (.if_icmp .ne 60, 0, 0, 0, 0) := by decide +kernel
theorem g117_534 : tg 534 (60) = 594 := by decide
theorem i117_537 : ins 117 537 = some (.aload_n 0, 0, 0, 0, 0) := by decide +kernel
theorem i117_538 : ins 117 538 = some (.iconst 1, 0, 0, 0, 0) := by decide +kernel
theorem i117_539 : ins 117 539 = some (.iconst 0, 0, 0, 0, 0) := by decide +kernel
theorem i117_540 : ins 117 540 = some (.invokevirtual 182, 144, 79, 0, 0) := by decide +kernel
theorem i117_543 : ins 117 543 = some (.iload 16, 0, 0, 0, 0) := by decide +kernel
theorem i117_545 : ins 117 545 = some (.ifCond .le 7, 0, 0, 0, 0) := by decide +kernel
theorem g117_545 : tg 545 (7) = 552 := by decide
theorem i117_548 : ins 117 548 = some (.iconst 5, 0, 0, 0, 0) := by decide +kernel
theorem i117_549 : ins 117 549 = some (.goto 5, 0, 0, 0, 0) := by decide +kernel
theorem g117_549 : tg 549 (5) = 554 := by decide
theorem i117_552 : ins 117 552 = some (.bipush 6, 0, 0, 0, 0) := by decide +kernel
theorem i117_554 : ins 117 554 = some (.if_icmp .ne 40, 0, 0, 0, 0) := by decide +kernel
theorem g117_554 : tg 554 (40) = 594 := by decide
theorem i117_557 : ins 117 557 = some (.aload_n 0, 0, 0, 0, 0) := by decide +kernel
theorem i117_558 : ins 117 558 = some (.iconst 1, 0, 0, 0, 0) := by decide +kernel
theorem i117_559 : ins 117 559 = some (.iconst 1, 0, 0, 0, 0) := by decide +kernel
theorem i117_560 : ins 117 560 = some (.invokevirtual 182, 144, 79, 0, 0) := by decide +kernel
theorem i117_563 : ins 117 563 = some (.iload 16, 0, 0, 0, 0) := by decide +kernel
theorem i117_565 : ins 117 565 = some (.ifCond .le 8, 0, 0, 0, 0) := by decide +kernel
theorem g117_565 : tg 565 (8) = 573 := by decide
theorem i117_568 : ins 117 568 = some (.iload 16, 0, 0, 0, 0) := by decide +kernel
theorem i117_570 : ins 117 570 = some (.goto 5, 0, 0, 0, 0) := by decide +kernel
theorem g117_570 : tg 570 (5) = 575 := by decide
theorem i117_573 : ins 117 573 = some (.iload 15, 0, 0, 0, 0) := by decide +kernel
theorem i117_575 : ins 117 575 = some (.if_icmp .ne 19, 0, 0, 0, 0) := by decide +kernel
theorem g117_575 : tg 575 (19) = 594 := by decide
theorem i117_578 : ins 117 578 = some (.aload_n 0, 0, 0, 0, 0) := by decide +kernel
theorem i117_579 : ins 117 579 = some (.iconst 2, 0, 0, 0, 0) := by decide +kernel
theorem i117_580 : ins 117 580 = some (.iconst 0, 0, 0, 0, 0) := by decide +kernel
theorem i117_581 : ins 117 581 = some (.invokevirtual 182, 144, 79, 0, 0) := by decide +kernel
theorem i117_584 : ins 117 584 = some (.sipush (-1015), 0, 0, 0, 0) := by decide +kernel
theorem i117_587 : ins 117 587 = some (.if_icmp .ne 7, 0, 0, 0, 0) := by decide +kernel
theorem g117_587 : tg 587 (7) = 594 := by decide
theorem i117_590 : ins 117 590 = some (.iconst 1, 0, 0, 0, 0) := by decide +kernel
theorem i117_591 : ins 117 591 = some (.goto 58, 0, 0, 0, 0) := by decide +kernel
theorem g117_591 : tg 591 (58) = 649 := by decide
theorem i117_594 : ins 117 594 = some (.iconst 0, 0, 0, 0, 0) := by decide +kernel
theorem i117_595 : ins 117 595 = some (.goto 54, 0, 0, 0, 0) := by decide +kernel
theorem g117_595 : tg 595 (54) = 649 := by decide
theorem i117_598 : ins 117 598 = some (.iload 9, 0, 0, 0, 0) := by decide +kernel
theorem i117_600 : ins 117 600 = some (.iload 17, 0, 0, 0, 0) := by decide +kernel
theorem i117_602 : ins 117 602 = some (.if_icmp .ne 46, 0, 0, 0, 0) := by decide +kernel
theorem g117_602 : tg 602 (46) = 648 := by decide
theorem i117_605 : ins 117 605 = some (.aload_n 0, 0, 0, 0, 0) := by decide +kernel
theorem i117_606 : ins 117 606 = some (.bipush 8, 0, 0, 0, 0) := by decide +kernel
theorem i117_608 : ins 117 608 = some (.invokevirtual 40, 106, 80, 0, 0) := by decide +kernel
theorem i117_611 : ins 117 611 = some (.iload 18, 0, 0, 0, 0) := by decide +kernel
theorem i117_613 : ins 117 613 = some (.iload 14, 0, 0, 0, 0) := by decide +kernel
theorem i117_615 : ins 117 615 = some (.iload 19, 0, 0, 0, 0) := by decide +kernel
theorem i117_617 : ins 117 617 = some (.imul, 0, 0, 0, 0) := by decide +kernel
theorem i117_618 : ins 117 618 = some (.iadd, 0, 0, 0, 0) := by decide +kernel
theorem i117_619 : ins 117 619 = some (.if_icmp .ne 29, 0, 0, 0, 0) := by decide +kernel
theorem g117_619 : tg 619 (29) = 648 := by decide
theorem i117_622 : ins 117 622 = some (.aload_n 0, 0, 0, 0, 0) := by decide +kernel
theorem i117_623 : ins 117 623 = some (.iconst 0, 0, 0, 0, 0) := by decide +kernel
theorem i117_624 : ins 117 624 = some (.invokevirtual 40, 106, 80, 0, 0) := by decide +kernel
theorem i117_627 : ins 117 627 = some (.iload_n 2, 0, 0, 0, 0) := by decide +kernel
theorem i117_628 : ins 117 628 = some (.iload 15, 0, 0, 0, 0) := by decide +kernel
theorem i117_630 : ins 117 630 = some (.iload 14, 0, 0, 0, 0) := by decide +kernel
theorem i117_632 : ins 117 632 = some (.if_icmp .ne 7, 0, 0, 0, 0) := by decide +kernel
theorem g117_632 : tg 632 (7) = 639 := by decide
theorem i117_635 : ins 117 635 = some (.iconst 1, 0, 0, 0, 0) := by decide +kernel
theorem i117_636 : ins 117 636 = some (.goto 4, 0, 0, 0, 0) := by decide +kernel
theorem g117_636 : tg 636 (4) = 640 := by decide
theorem i117_639 : ins 117 639 = some (.iconst 0, 0, 0, 0, 0) := by decide +kernel
theorem i117_640 : ins 117 640 = some (.isub, 0, 0, 0, 0) := by decide +kernel
theorem i117_641 : ins 117 641 = some (.if_icmp .ne 7, 0, 0, 0, 0) := by decide +kernel
theorem g117_641 : tg 641 (7) = 648 := by decide
theorem i117_644 : ins 117 644 = some (.iconst 1, 0, 0, 0, 0) := by decide +kernel
theorem i117_645 : ins 117 645 = some (.goto 4, 0, 0, 0, 0) := by decide +kernel
theorem g117_645 : tg 645 (4) = 649 := by decide
theorem i117_648 : ins 117 648 = some (.iconst 0, 0, 0, 0, 0) := by decide +kernel
theorem i117_649 : ins 117 649 = some (.iand, 0, 0, 0, 0) := by decide +kernel
theorem i117_650 : ins 117 650 = some (.istore_n 3, 0, 0, 0, 0) := by decide +kernel
theorem i117_651 : ins 117 651 = some (.aload_n 0, 0, 0, 0, 0) := by decide +kernel
theorem i117_652 : ins 117 652 = some (.invokevirtual 186, 145, 84, 0, 0) := by decide +kernel
theorem i117_655 : ins 117 655 = some (.iload_n 2, 0, 0, 0, 0) := by decide +kernel
theorem i117_656 : ins 117 656 = some (.if_icmp .ne 11, 0, 0, 0, 0) := by decide +kernel
theorem g117_656 : tg 656 (11) = 667 := by decide
theorem i117_659 : ins 117 659 = some (.iload_n 3, 0, 0, 0, 0) := by decide +kernel
theorem i117_660 : ins 117 660 = some (.ifCond .eq 7, 0, 0, 0, 0) := by decide +kernel
theorem g117_660 : tg 660 (7) = 667 := by decide
theorem i117_663 : ins 117 663 = some (.iconst 1, 0, 0, 0, 0) := by decide +kernel
theorem i117_664 : ins 117 664 = some (.goto 4, 0, 0, 0, 0) := by decide +kernel
theorem g117_664 : tg 664 (4) = 668 := by decide
theorem i117_667 : ins 117 667 = some (.iconst 0, 0, 0, 0, 0) := by decide +kernel
theorem i117_668 : ins 117 668 = some (.ireturn, 0, 0, 0, 0) := by decide +kernel
theorem c118 : 118 < mnames ∧ nA 118 = 2 ∧ nS 118 = 0 := by decide +kernel

theorem m118 : (118 ≠ ensK ∧ 118 < mnames) ∧ nA 118 = 2 ∧ nL 118 = 2 := by decide +kernel
theorem r118 : nR 118 = none := by decide +kernel
theorem i118_0 : ins 118 0 = some (.aload_n 0, 0, 0, 0, 0) := by decide +kernel
theorem i118_1 : ins 118 1 = some (.invokespecial 1, 0, 996, 0, 0) := by decide +kernel
theorem i118_4 : ins 118 4 = some (.aload_n 0, 0, 0, 0, 0) := by decide +kernel
theorem i118_5 : ins 118 5 = some (.iload_n 1, 0, 0, 0, 0) := by decide +kernel
theorem i118_6 : ins 118 6 = some (.putfield 7, 83, 8, 0, 0) := by decide +kernel
theorem i118_9 : ins 118 9 = some (.return_, 0, 0, 0, 0) := by decide +kernel
theorem c119 : 119 < mnames ∧ nA 119 = 2 ∧ nS 119 = 0 := by decide +kernel

theorem m119 : (119 ≠ ensK ∧ 119 < mnames) ∧ nA 119 = 2 ∧ nL 119 = 2 := by decide +kernel
theorem r119 : nR 119 = (some .int) := by decide +kernel
theorem i119_0 : ins 119 0 = some (.aload_n 0, 0, 0, 0, 0) := by decide +kernel
theorem i119_1 : ins 119 1 = some (.aload_n 0, 0, 0, 0, 0) := by decide +kernel
theorem i119_2 : ins 119 2 = some (.getfield 7, 83, 8, 0, 0) := by decide +kernel
theorem i119_5 : ins 119 5 = some (.ldc 13, 0, 2, 0, 0) := by decide +kernel
theorem i119_7 : ins 119 7 = some (.imul, 0, 0, 0, 0) := by decide +kernel
theorem i119_8 : ins 119 8 = some (.sipush 12345, 0, 0, 0, 0) := by decide +kernel
theorem i119_11 : ins 119 11 = some (.iadd, 0, 0, 0, 0) := by decide +kernel
theorem i119_12 : ins 119 12 = some (.putfield 7, 83, 8, 0, 0) := by decide +kernel
theorem i119_15 : ins 119 15 = some (.aload_n 0, 0, 0, 0, 0) := by decide +kernel
theorem i119_16 : ins 119 16 = some (.getfield 7, 83, 8, 0, 0) := by decide +kernel
theorem i119_19 : ins 119 19 = some (.bipush 16, 0, 0, 0, 0) := by decide +kernel
theorem i119_21 : ins 119 21 = some (.iushr, 0, 0, 0, 0) := by decide +kernel
theorem i119_22 : ins 119 22 = some (.iload_n 1, 0, 0, 0, 0) := by decide +kernel
theorem i119_23 : ins 119 23 = some (.irem, 0, 0, 0, 0) := by decide +kernel
theorem i119_24 : ins 119 24 = some (.ireturn, 0, 0, 0, 0) := by decide +kernel
theorem c120 : 120 < mnames ∧ nA 120 = 1 ∧ nS 120 = 0 := by decide +kernel

theorem m120 : (120 ≠ ensK ∧ 120 < mnames) ∧ nA 120 = 1 ∧ nL 120 = 2 := by decide +kernel
theorem r120 : nR 120 = (some .double) := by decide +kernel
theorem i120_0 : ins 120 0 = some (.aload_n 0, 0, 0, 0, 0) := by decide +kernel
theorem i120_1 : ins 120 1 = some (.getfield 10, 44, 7, 0, 3) := by decide +kernel
theorem i120_4 : ins 120 4 = some (.getfield 87, 45, 5, 0, 3) := by decide +kernel
theorem i120_7 : ins 120 7 = some (.getfield 195, 61, 6, 8, 0) := by decide +kernel
theorem i120_10 : ins 120 10 = some (.istore_n 1, 0, 0, 0, 0) := by decide +kernel
theorem i120_11 : ins 120 11 = some (.iload_n 1, 0, 0, 0, 0) := by decide +kernel
theorem i120_12 : ins 120 12 = some (.ifCond .ne 7, 0, 0, 0, 0) := by decide +kernel
theorem g120_12 : tg 12 (7) = 19 := by decide
theorem i120_15 : ins 120 15 = some (.dconst 0, 0, 0, 0, 0) := by decide +kernel
theorem i120_16 : ins 120 16 = some (.goto 17, 0, 0, 0, 0) := by decide +kernel
theorem g120_16 : tg 16 (17) = 33 := by decide
theorem i120_19 : ins 120 19 = some (.aload_n 0, 0, 0, 0, 0) := by decide +kernel
theorem i120_20 : ins 120 20 = some (.getfield 10, 44, 7, 0, 3) := by decide +kernel
theorem i120_23 : ins 120 23 = some (.getfield 87, 45, 5, 0, 3) := by decide +kernel
theorem i120_26 : ins 120 26 = some (.invokevirtual 254, 80, 50, 0, 0) := by decide +kernel
theorem i120_29 : ins 120 29 = some (.i2d, 0, 0, 0, 0) := by decide +kernel
theorem i120_30 : ins 120 30 = some (.iload_n 1, 0, 0, 0, 0) := by decide +kernel
theorem i120_31 : ins 120 31 = some (.i2d, 0, 0, 0, 0) := by decide +kernel
theorem i120_32 : ins 120 32 = some (.ddiv, 0, 0, 0, 0) := by decide +kernel
theorem i120_33 : ins 120 33 = some (.dreturn, 0, 0, 0, 0) := by decide +kernel
theorem c121 : 121 < mnames ∧ nA 121 = 1 ∧ nS 121 = 0 := by decide +kernel

theorem m121 : (121 ≠ ensK ∧ 121 < mnames) ∧ nA 121 = 1 ∧ nL 121 = 2 := by decide +kernel
theorem r121 : nR 121 = (some .float) := by decide +kernel
theorem i121_0 : ins 121 0 = some (.aload_n 0, 0, 0, 0, 0) := by decide +kernel
theorem i121_1 : ins 121 1 = some (.getfield 10, 44, 7, 0, 3) := by decide +kernel
theorem i121_4 : ins 121 4 = some (.getfield 87, 45, 5, 0, 3) := by decide +kernel
theorem i121_7 : ins 121 7 = some (.getfield 195, 61, 6, 8, 0) := by decide +kernel
theorem i121_10 : ins 121 10 = some (.istore_n 1, 0, 0, 0, 0) := by decide +kernel
theorem i121_11 : ins 121 11 = some (.iload_n 1, 0, 0, 0, 0) := by decide +kernel
theorem i121_12 : ins 121 12 = some (.ifCond .ne 7, 0, 0, 0, 0) := by decide +kernel
theorem g121_12 : tg 12 (7) = 19 := by decide
theorem i121_15 : ins 121 15 = some (.fconst 0, 0, 0, 0, 0) := by decide +kernel
theorem i121_16 : ins 121 16 = some (.goto 17, 0, 0, 0, 0) := by decide +kernel
theorem g121_16 : tg 16 (17) = 33 := by decide
theorem i121_19 : ins 121 19 = some (.aload_n 0, 0, 0, 0, 0) := by decide +kernel
theorem i121_20 : ins 121 20 = some (.getfield 10, 44, 7, 0, 3) := by decide +kernel
theorem i121_23 : ins 121 23 = some (.getfield 87, 45, 5, 0, 3) := by decide +kernel
theorem i121_26 : ins 121 26 = some (.invokevirtual 251, 79, 49, 0, 0) := by decide +kernel
theorem i121_29 : ins 121 29 = some (.i2f, 0, 0, 0, 0) := by decide +kernel
theorem i121_30 : ins 121 30 = some (.iload_n 1, 0, 0, 0, 0) := by decide +kernel
theorem i121_31 : ins 121 31 = some (.i2f, 0, 0, 0, 0) := by decide +kernel
theorem i121_32 : ins 121 32 = some (.fdiv, 0, 0, 0, 0) := by decide +kernel
theorem i121_33 : ins 121 33 = some (.freturn, 0, 0, 0, 0) := by decide +kernel
theorem c122 : 122 < mnames ∧ nA 122 = 1 ∧ nS 122 = 0 := by decide +kernel

theorem m122 : (122 ≠ ensK ∧ 122 < mnames) ∧ nA 122 = 1 ∧ nL 122 = 1 := by decide +kernel
theorem r122 : nR 122 = none := by decide +kernel
theorem i122_0 : ins 122 0 = some (.aload_n 0, 0, 0, 0, 0) := by decide +kernel
theorem i122_1 : ins 122 1 = some (.bipush 16, 0, 0, 0, 0) := by decide +kernel
theorem i122_3 : ins 122 3 = some (.invokespecial 1, 147, 124, 4, 0) := by decide +kernel
theorem i122_6 : ins 122 6 = some (.return_, 0, 0, 0, 0) := by decide +kernel
theorem c123 : 123 < mnames ∧ nA 123 = 2 ∧ nS 123 = 0 := by decide +kernel

theorem m123 : (123 ≠ ensK ∧ 123 < mnames) ∧ nA 123 = 2 ∧ nL 123 = 2 := by decide +kernel
theorem r123 : nR 123 = none := by decide +kernel
theorem i123_0 : ins 123 0 = some (.aload_n 0, 0, 0, 0, 0) := by decide +kernel
theorem i123_1 : ins 123 1 = some (.aload_n 1, 0, 0, 0, 0) := by decide +kernel
theorem i123_2 : ins 123 2 = some (.invokespecial 7, 148, 125, 4, 0) := by decide +kernel
theorem i123_5 : ins 123 5 = some (.return_, 0, 0, 0, 0) := by decide +kernel
theorem c124 : 124 < mnames ∧ nA 124 = 2 ∧ nS 124 = 0 := by decide +kernel

theorem m124 : (124 ≠ ensK ∧ 124 < mnames) ∧ nA 124 = 2 ∧ nL 124 = 2 := by decide +kernel
theorem r124 : nR 124 = none := by decide +kernel
theorem i124_0 : ins 124 0 = some (.aload_n 0, 0, 0, 0, 0) := by decide +kernel
theorem i124_1 : ins 124 1 = some (.invokespecial 3, 1, 996, 0, 0) := by decide +kernel
theorem i124_4 : ins 124 4 = some (.getstatic 18, 0, 0, 0, 0) := by decide +kernel
theorem i124_7 : ins 124 7 = some (.ifCond .eq 18, 0, 0, 0, 0) := by decide +kernel
theorem g124_7 : tg 7 (18) = 25 := by decide
theorem i124_10 : ins 124 10 = some (.aload_n 0, 0, 0, 0, 0) := by decide +kernel
theorem i124_11 : ins 124 11 = some (.iload_n 1, 0, 0, 0, 0) := by decide +kernel
theorem i124_12 : ins 124 12 = some (.newarray .byte, 0, 0, 0, 0) := by decide +kernel
theorem i124_14 : ins 124 14 = some (.putfield 15, 84, 0, 0, 3) := by decide +kernel
theorem i124_17 : ins 124 17 = some (.aload_n 0, 0, 0, 0, 0) := by decide +kernel
theorem i124_18 : ins 124 18 = some (.iconst 0, 0, 0, 0, 0) := by decide +kernel
theorem i124_19 : ins 124 19 = some (.putfield 22, 85, 0, 1, 2) := by decide +kernel
theorem i124_22 : ins 124 22 = some (.goto 16, 0, 0, 0, 0) := by decide +kernel
theorem g124_22 : tg 22 (16) = 38 := by decide
theorem i124_25 : ins 124 25 = some (.aload_n 0, 0, 0, 0, 0) := by decide +kernel
theorem i124_26 : ins 124 26 = some (.iload_n 1, 0, 0, 0, 0) := by decide +kernel
theorem i124_27 : ins 124 27 = some (.invokestatic 26, 0, 999, 0, 0) := by decide +kernel
theorem i124_30 : ins 124 30 = some (.putfield 15, 84, 0, 0, 3) := by decide +kernel
theorem i124_33 : ins 124 33 = some (.aload_n 0, 0, 0, 0, 0) := by decide +kernel
theorem i124_34 : ins 124 34 = some (.iconst 1, 0, 0, 0, 0) := by decide +kernel
theorem i124_35 : ins 124 35 = some (.putfield 22, 85, 0, 1, 2) := by decide +kernel
theorem i124_38 : ins 124 38 = some (.return_, 0, 0, 0, 0) := by decide +kernel
theorem c125 : 125 < mnames ∧ nA 125 = 2 ∧ nS 125 = 0 := by decide +kernel

theorem m125 : (125 ≠ ensK ∧ 125 < mnames) ∧ nA 125 = 2 ∧ nL 125 = 5 := by decide +kernel
theorem r125 : nR 125 = none := by decide +kernel
theorem i125_0 : ins 125 0 = some (.aload_n 0, 0, 0, 0, 0) := by decide +kernel
theorem i125_1 : ins 125 1 = some (.invokespecial 3, 1, 996, 0, 0) := by decide +kernel
theorem i125_4 : ins 125 4 = some (.aload_n 1, 0, 0, 0, 0) := by decide +kernel
theorem i125_5 : ins 125 5 = some (.invokevirtual 32, 149, 204, 0, 0) := by decide +kernel
theorem i125_8 : ins 125 8 = some (.istore_n 2, 0, 0, 0, 0) := by decide +kernel
theorem i125_9 : ins 125 9 = some (.iload_n 2, 0, 0, 0, 0) := by decide +kernel
theorem i125_10 : ins 125 10 = some (.ldc 38, 1, 2, 1, 0) := by decide +kernel
theorem i125_12 : ins 125 12 = some (.if_icmp .ge 10, 0, 0, 0, 0) := by decide +kernel
theorem g125_12 : tg 12 (10) = 22 := by decide
theorem i125_15 : ins 125 15 = some (.iload_n 2, 0, 0, 0, 0) := by decide +kernel
theorem i125_16 : ins 125 16 = some (.bipush 16, 0, 0, 0, 0) := by decide +kernel
theorem i125_18 : ins 125 18 = some (.iadd, 0, 0, 0, 0) := by decide +kernel
theorem i125_19 : ins 125 19 = some (.goto 5, 0, 0, 0, 0) := by decide +kernel
theorem g125_19 : tg 19 (5) = 24 := by decide
theorem i125_22 : ins 125 22 = some (.ldc 39, 2, 2, 2, 0) := by decide +kernel
theorem i125_24 : ins 125 24 = some (.istore_n 3, 0, 0, 0, 0) := by decide +kernel
theorem i125_25 : ins 125 25 = some (.aload_n 1, 0, 0, 0, 0) := by decide +kernel
theorem i125_26 : ins 125 26 = some (.invokevirtual 40, 150, 209, 0, 0) := by decide +kernel
theorem i125_29 : ins 125 29 = some (.istore 4, 0, 0, 0, 0) := by decide +kernel
theorem i125_31 : ins 125 31 = some (.aload_n 0, 0, 0, 0, 0) := by decide +kernel
theorem i125_32 : ins 125 32 = some (.iload 4, 0, 0, 0, 0) := by decide +kernel
theorem i125_34 : ins 125 34 = some (.putfield 22, 85, 0, 1, 2) := by decide +kernel
theorem i125_37 : ins 125 37 = some (.aload_n 0, 0, 0, 0, 0) := by decide +kernel
theorem i125_38 : ins 125 38 = some (.iload 4, 0, 0, 0, 0) := by decide +kernel
theorem i125_40 : ins 125 40 = some (.ifCond .ne 9, 0, 0, 0, 0) := by decide +kernel
theorem g125_40 : tg 40 (9) = 49 := by decide
theorem i125_43 : ins 125 43 = some (.iload_n 3, 0, 0, 0, 0) := by decide +kernel
theorem i125_44 : ins 125 44 = some (.newarray .byte, 0, 0, 0, 0) := by decide +kernel
theorem i125_46 : ins 125 46 = some (.goto 7, 0, 0, 0, 0) := by decide +kernel
theorem g125_46 : tg 46 (7) = 53 := by decide
theorem i125_49 : ins 125 49 = some (.iload_n 3, 0, 0, 0, 0) := by decide +kernel
theorem i125_50 : ins 125 50 = some (.invokestatic 26, 0, 999, 0, 0) := by decide +kernel
theorem i125_53 : ins 125 53 = some (.putfield 15, 84, 0, 0, 3) := by decide +kernel
theorem i125_56 : ins 125 56 = some (.aload_n 0, 0, 0, 0, 0) := by decide +kernel
theorem i125_57 : ins 125 57 = some (.aload_n 1, 0, 0, 0, 0) := by decide +kernel
theorem i125_58 : ins 125 58 = some (.invokevirtual 43, 151, 127, 6, 0) := by decide +kernel
theorem i125_61 : ins 125 61 = some (.pop, 0, 0, 0, 0) := by decide +kernel
theorem i125_62 : ins 125 62 = some (.return_, 0, 0, 0, 0) := by decide +kernel
theorem c126 : 126 < mnames ∧ nA 126 = 2 ∧ nS 126 = 0 := by decide +kernel

theorem m126 : (126 ≠ ensK ∧ 126 < mnames) ∧ nA 126 = 2 ∧ nL 126 = 2 := by decide +kernel
theorem r126 : nR 126 = (some (.object "java/lang/StringBuilder")) := by decide +kernel
theorem i126_0 : ins 126 0 = some (.aload_n 0, 0, 0, 0, 0) := by decide +kernel
theorem i126_1 : ins 126 1 = some (.aload_n 1, 0, 0, 0, 0) := by decide +kernel
theorem i126_2 : ins 126 2 = some (.invokespecial 29, 152, 128, 3, 0) := by decide +kernel
theorem i126_5 : ins 126 5 = some (.pop, 0, 0, 0, 0) := by decide +kernel
theorem i126_6 : ins 126 6 = some (.aload_n 0, 0, 0, 0, 0) := by decide +kernel
theorem i126_7 : ins 126 7 = some (.areturn, 0, 0, 0, 0) := by decide +kernel
theorem c127 : 127 < mnames ∧ nA 127 = 2 ∧ nS 127 = 0 := by decide +kernel

theorem m127 : (127 ≠ ensK ∧ 127 < mnames) ∧ nA 127 = 2 ∧ nL 127 = 2 := by decide +kernel
theorem r127 : nR 127 = (some (.object "java/lang/AbstractStringBuilder")) := by decide +kernel
theorem i127_0 : ins 127 0 = some (.aload_n 0, 0, 0, 0, 0) := by decide +kernel
theorem i127_1 : ins 127 1 = some (.aload_n 1, 0, 0, 0, 0) := by decide +kernel
theorem i127_2 : ins 127 2 = some (.invokevirtual 23, 153, 126, 0, 0) := by decide +kernel
theorem i127_5 : ins 127 5 = some (.areturn, 0, 0, 0, 0) := by decide +kernel
theorem c128 : 128 < mnames ∧ nA 128 = 2 ∧ nS 128 = 0 := by decide +kernel

theorem m128 : (128 ≠ ensK ∧ 128 < mnames) ∧ nA 128 = 2 ∧ nL 128 = 3 := by decide +kernel
theorem r128 : nR 128 = (some (.object "java/lang/AbstractStringBuilder")) := by decide +kernel
theorem i128_0 : ins 128 0 = some (.aload_n 1, 0, 0, 0, 0) := by decide +kernel
theorem i128_1 : ins 128 1 = some (.ifnonnull 8, 0, 0, 0, 0) := by decide +kernel
theorem g128_1 : tg 1 (8) = 9 := by decide
theorem i128_4 : ins 128 4 = some (.aload_n 0, 0, 0, 0, 0) := by decide +kernel
theorem i128_5 : ins 128 5 = some (.invokevirtual 204, 0, 999, 0, 0) := by decide +kernel
theorem i128_8 : ins 128 8 = some (.areturn, 0, 0, 0, 0) := by decide +kernel
theorem i128_9 : ins 128 9 = some (.aload_n 1, 0, 0, 0, 0) := by decide +kernel
theorem i128_10 : ins 128 10 = some (.invokevirtual 32, 149, 204, 0, 0) := by decide +kernel
theorem i128_13 : ins 128 13 = some (.istore_n 2, 0, 0, 0, 0) := by decide +kernel
theorem i128_14 : ins 128 14 = some (.aload_n 0, 0, 0, 0, 0) := by decide +kernel
theorem i128_15 : ins 128 15 = some (.aload_n 0, 0, 0, 0, 0) := by decide +kernel
theorem i128_16 : ins 128 16 = some (.getfield 79, 86, 0, 3, 0) := by decide +kernel
theorem i128_19 : ins 128 19 = some (.iload_n 2, 0, 0, 0, 0) := by decide +kernel
theorem i128_20 : ins 128 20 = some (.iadd, 0, 0, 0, 0) := by decide +kernel
theorem i128_21 : ins 128 21 = some (.invokevirtual 100, 154, 217, 2, 0) := by decide +kernel
theorem i128_24 : ins 128 24 = some (.aload_n 0, 0, 0, 0, 0) := by decide +kernel
theorem i128_25 : ins 128 25 = some (.aload_n 0, 0, 0, 0, 0) := by decide +kernel
theorem i128_26 : ins 128 26 = some (.getfield 79, 86, 0, 3, 0) := by decide +kernel
theorem i128_29 : ins 128 29 = some (.aload_n 1, 0, 0, 0, 0) := by decide +kernel
theorem i128_30 : ins 128 30 = some (.invokevirtual 208, 155, 129, 2, 0) := by decide +kernel
theorem i128_33 : ins 128 33 = some (.aload_n 0, 0, 0, 0, 0) := by decide +kernel
theorem i128_34 : ins 128 34 = some (.dup, 0, 0, 0, 0) := by decide +kernel
theorem i128_35 : ins 128 35 = some (.getfield 79, 86, 0, 3, 0) := by decide +kernel
theorem i128_38 : ins 128 38 = some (.iload_n 2, 0, 0, 0, 0) := by decide +kernel
theorem i128_39 : ins 128 39 = some (.iadd, 0, 0, 0, 0) := by decide +kernel
theorem i128_40 : ins 128 40 = some (.putfield 79, 86, 0, 3, 0) := by decide +kernel
theorem i128_43 : ins 128 43 = some (.aload_n 0, 0, 0, 0, 0) := by decide +kernel
theorem i128_44 : ins 128 44 = some (.areturn, 0, 0, 0, 0) := by decide +kernel
theorem c129 : 129 < mnames ∧ nA 129 = 3 ∧ nS 129 = 0 := by decide +kernel

theorem m129 : (129 ≠ ensK ∧ 129 < mnames) ∧ nA 129 = 3 ∧ nL 129 = 3 := by decide +kernel
theorem r129 : nR 129 = none := by decide +kernel
theorem i129_0 : ins 129 0 = some (.aload_n 0, 0, 0, 0, 0) := by decide +kernel
theorem i129_1 : ins 129 1 = some (.aload_n 2, 0, 0, 0, 0) := by decide +kernel
theorem i129_2 : ins 129 2 = some (.invokevirtual 397, 156, 130, 2, 0) := by decide +kernel
theorem i129_5 : ins 129 5 = some (.aload_n 2, 0, 0, 0, 0) := by decide +kernel
theorem i129_6 : ins 129 6 = some (.aload_n 0, 0, 0, 0, 0) := by decide +kernel
theorem i129_7 : ins 129 7 = some (.getfield 15, 84, 0, 0, 3) := by decide +kernel
theorem i129_10 : ins 129 10 = some (.iload_n 1, 0, 0, 0, 0) := by decide +kernel
theorem i129_11 : ins 129 11 = some (.aload_n 0, 0, 0, 0, 0) := by decide +kernel
theorem i129_12 : ins 129 12 = some (.getfield 22, 85, 0, 1, 2) := by decide +kernel
theorem i129_15 : ins 129 15 = some (.invokevirtual 399, 157, 134, 0, 0) := by decide +kernel
theorem i129_18 : ins 129 18 = some (.return_, 0, 0, 0, 0) := by decide +kernel
theorem c130 : 130 < mnames ∧ nA 130 = 2 ∧ nS 130 = 0 := by decide +kernel

theorem m130 : (130 ≠ ensK ∧ 130 < mnames) ∧ nA 130 = 2 ∧ nL 130 = 2 := by decide +kernel
theorem r130 : nR 130 = none := by decide +kernel
theorem i130_0 : ins 130 0 = some (.getstatic 18, 0, 0, 0, 0) := by decide +kernel
theorem i130_3 : ins 130 3 = some (.ifCond .eq 18, 0, 0, 0, 0) := by decide +kernel
theorem g130_3 : tg 3 (18) = 21 := by decide
theorem i130_6 : ins 130 6 = some (.aload_n 0, 0, 0, 0, 0) := by decide +kernel
theorem i130_7 : ins 130 7 = some (.getfield 22, 85, 0, 1, 2) := by decide +kernel
theorem i130_10 : ins 130 10 = some (.aload_n 1, 0, 0, 0, 0) := by decide +kernel
theorem i130_11 : ins 130 11 = some (.invokevirtual 40, 150, 209, 0, 0) := by decide +kernel
theorem i130_14 : ins 130 14 = some (.if_icmp .eq 7, 0, 0, 0, 0) := by decide +kernel
theorem g130_14 : tg 14 (7) = 21 := by decide
theorem i130_17 : ins 130 17 = some (.aload_n 0, 0, 0, 0, 0) := by decide +kernel
theorem i130_18 : ins 130 18 = some (.invokevirtual 195, 0, 999, 0, 0) := by decide +kernel
theorem i130_21 : ins 130 21 = some (.return_, 0, 0, 0, 0) := by decide +kernel
theorem c131 : 131 < mnames ∧ nA 131 = 2 ∧ nS 131 = 0 := by decide +kernel

theorem m131 : (131 ≠ ensK ∧ 131 < mnames) ∧ nA 131 = 2 ∧ nL 131 = 6 := by decide +kernel
theorem r131 : nR 131 = (some .int) := by decide +kernel
theorem i131_0 : ins 131 0 = some (.aload_n 0, 0, 0, 0, 0) := by decide +kernel
theorem i131_1 : ins 131 1 = some (.getfield 15, 84, 0, 0, 3) := by decide +kernel
theorem i131_4 : ins 131 4 = some (.arraylength, 0, 0, 0, 0) := by decide +kernel
theorem i131_5 : ins 131 5 = some (.istore_n 2, 0, 0, 0, 0) := by decide +kernel
theorem i131_6 : ins 131 6 = some (.iload_n 1, 0, 0, 0, 0) := by decide +kernel
theorem i131_7 : ins 131 7 = some (.aload_n 0, 0, 0, 0, 0) := by decide +kernel
theorem i131_8 : ins 131 8 = some (.getfield 22, 85, 0, 1, 2) := by decide +kernel
theorem i131_11 : ins 131 11 = some (.ishl, 0, 0, 0, 0) := by decide +kernel
theorem i131_12 : ins 131 12 = some (.istore_n 3, 0, 0, 0, 0) := by decide +kernel
theorem i131_13 : ins 131 13 = some (.iload_n 3, 0, 0, 0, 0) := by decide +kernel
theorem i131_14 : ins 131 14 = some (.iload_n 2, 0, 0, 0, 0) := by decide +kernel
theorem i131_15 : ins 131 15 = some (.isub, 0, 0, 0, 0) := by decide +kernel
theorem i131_16 : ins 131 16 = some (.istore 4, 0, 0, 0, 0) := by decide +kernel
theorem i131_18 : ins 131 18 = some (.iload_n 2, 0, 0, 0, 0) := by decide +kernel
theorem i131_19 : ins 131 19 = some (.iload 4, 0, 0, 0, 0) := by decide +kernel
theorem i131_21 : ins 131 21 = some (.iload_n 2, 0, 0, 0, 0) := by decide +kernel
theorem i131_22 : ins 131 22 = some (.iconst 2, 0, 0, 0, 0) := by decide +kernel
theorem i131_23 : ins 131 23 = some (.aload_n 0, 0, 0, 0, 0) := by decide +kernel
theorem i131_24 : ins 131 24 = some (.getfield 22, 85, 0, 1, 2) := by decide +kernel
theorem i131_27 : ins 131 27 = some (.ishl, 0, 0, 0, 0) := by decide +kernel
theorem i131_28 : ins 131 28 = some (.iadd, 0, 0, 0, 0) := by decide +kernel
theorem i131_29 : ins 131 29 = some (.invokestatic 114, 158, 132, 1, 0) := by decide +kernel
theorem i131_32 : ins 131 32 = some (.istore 5, 0, 0, 0, 0) := by decide +kernel
theorem i131_34 : ins 131 34 = some (.iload 5, 0, 0, 0, 0) := by decide +kernel
theorem i131_36 : ins 131 36 = some (.ldc 39, 2, 2, 2, 0) := by decide +kernel
theorem i131_38 : ins 131 38 = some (.if_icmp .ne 13, 0, 0, 0, 0) := by decide +kernel
theorem g131_38 : tg 38 (13) = 51 := by decide
theorem i131_41 : ins 131 41 = some (.new 120, 0, 999, 0, 0) := by decide +kernel
theorem i131_44 : ins 131 44 = some (.dup, 0, 0, 0, 0) := by decide +kernel
theorem i131_45 : ins 131 45 = some (.ldc 122, 0, 999, 0, 0) := by decide +kernel
theorem i131_47 : ins 131 47 = some (.invokespecial 124, 0, 999, 0, 0) := by decide +kernel
theorem i131_50 : ins 131 50 = some (.athrow, 0, 0, 0, 0) := by decide +kernel
theorem i131_51 : ins 131 51 = some (.iload 5, 0, 0, 0, 0) := by decide +kernel
theorem i131_53 : ins 131 53 = some (.aload_n 0, 0, 0, 0, 0) := by decide +kernel
theorem i131_54 : ins 131 54 = some (.getfield 22, 85, 0, 1, 2) := by decide +kernel
theorem i131_57 : ins 131 57 = some (.ishr, 0, 0, 0, 0) := by decide +kernel
theorem i131_58 : ins 131 58 = some (.ireturn, 0, 0, 0, 0) := by decide +kernel
theorem c132 : 132 < mnames ∧ nA 132 = 3 ∧ nS 132 = 1 := by decide +kernel
theorem m132 : (132 ≠ ensK ∧ 132 < mnames) ∧ nA 132 = 3 ∧ nL 132 = 4 := by decide +kernel
theorem r132 : nR 132 = (some .int) := by decide +kernel
theorem i132_0 : ins 132 0 = some (.iload_n 0, 0, 0, 0, 0) := by decide +kernel
theorem i132_1 : ins 132 1 = some (.iload_n 1, 0, 0, 0, 0) := by decide +kernel
theorem i132_2 : ins 132 2 = some (.iload_n 2, 0, 0, 0, 0) := by decide +kernel
theorem i132_3 : ins 132 3 = some (.invokestatic 194, 159, 203, 1, 0) := by decide +kernel
theorem i132_6 : ins 132 6 = some (.iadd, 0, 0, 0, 0) := by decide +kernel
theorem i132_7 : ins 132 7 = some (.istore_n 3, 0, 0, 0, 0) := by decide +kernel
theorem i132_8 : ins 132 8 = some (.iconst 0, 0, 0, 0, 0) := by decide +kernel
theorem i132_9 : ins 132 9 = some (.iload_n 3, 0, 0, 0, 0) := by decide +kernel
theorem i132_10 : ins 132 10 = some (.if_icmp .ge 11, 0, 0, 0, 0) := by decide +kernel
theorem g132_10 : tg 10 (11) = 21 := by decide
theorem i132_13 : ins 132 13 = some (.iload_n 3, 0, 0, 0, 0) := by decide +kernel
theorem i132_14 : ins 132 14 = some (.ldc 200, 3, 2, 3, 0) := by decide +kernel
theorem i132_16 : ins 132 16 = some (.if_icmp .gt 5, 0, 0, 0, 0) := by decide +kernel
theorem g132_16 : tg 16 (5) = 21 := by decide
theorem i132_19 : ins 132 19 = some (.iload_n 3, 0, 0, 0, 0) := by decide +kernel
theorem i132_20 : ins 132 20 = some (.ireturn, 0, 0, 0, 0) := by decide +kernel
theorem i132_21 : ins 132 21 = some (.iload_n 0, 0, 0, 0, 0) := by decide +kernel
theorem i132_22 : ins 132 22 = some (.iload_n 1, 0, 0, 0, 0) := by decide +kernel
theorem i132_23 : ins 132 23 = some (.invokestatic 201, 0, 999, 0, 0) := by decide +kernel
theorem i132_26 : ins 132 26 = some (.ireturn, 0, 0, 0, 0) := by decide +kernel
theorem c133 : 133 < mnames ∧ nA 133 = 2 ∧ nS 133 = 1 := by decide +kernel
theorem m133 : (133 ≠ ensK ∧ 133 < mnames) ∧ nA 133 = 2 ∧ nL 133 = 3 := by decide +kernel
theorem r133 : nR 133 = (some (.array .byte)) := by decide +kernel
theorem i133_0 : ins 133 0 = some (.iload_n 1, 0, 0, 0, 0) := by decide +kernel
theorem i133_1 : ins 133 1 = some (.aload_n 0, 0, 0, 0, 0) := by decide +kernel
theorem i133_2 : ins 133 2 = some (.arraylength, 0, 0, 0, 0) := by decide +kernel
theorem i133_3 : ins 133 3 = some (.if_icmp .ne 11, 0, 0, 0, 0) := by decide +kernel
theorem g133_3 : tg 3 (11) = 14 := by decide
theorem i133_6 : ins 133 6 = some (.aload_n 0, 0, 0, 0, 0) := by decide +kernel
theorem i133_7 : ins 133 7 = some (.invokevirtual 310, 0, 997, 0, 0) := by decide +kernel
theorem i133_10 : ins 133 10 = some (.checkcast 311, 0, 1, 0, 0) := by decide +kernel
theorem i133_13 : ins 133 13 = some (.areturn, 0, 0, 0, 0) := by decide +kernel
theorem i133_14 : ins 133 14 = some (.iload_n 1, 0, 0, 0, 0) := by decide +kernel
theorem i133_15 : ins 133 15 = some (.newarray .byte, 0, 0, 0, 0) := by decide +kernel
theorem i133_17 : ins 133 17 = some (.astore_n 2, 0, 0, 0, 0) := by decide +kernel
theorem i133_18 : ins 133 18 = some (.aload_n 0, 0, 0, 0, 0) := by decide +kernel
theorem i133_19 : ins 133 19 = some (.iconst 0, 0, 0, 0, 0) := by decide +kernel
theorem i133_20 : ins 133 20 = some (.aload_n 2, 0, 0, 0, 0) := by decide +kernel
theorem i133_21 : ins 133 21 = some (.iconst 0, 0, 0, 0, 0) := by decide +kernel
theorem i133_22 : ins 133 22 = some (.aload_n 0, 0, 0, 0, 0) := by decide +kernel
theorem i133_23 : ins 133 23 = some (.arraylength, 0, 0, 0, 0) := by decide +kernel
theorem i133_24 : ins 133 24 = some (.iload_n 1, 0, 0, 0, 0) := by decide +kernel
theorem i133_25 : ins 133 25 = some (.invokestatic 304, 160, 202, 1, 0) := by decide +kernel
theorem i133_28 : ins 133 28 = some (.invokestatic 150, 1, 998, 0, 0) := by decide +kernel
theorem i133_31 : ins 133 31 = some (.aload_n 2, 0, 0, 0, 0) := by decide +kernel
theorem i133_32 : ins 133 32 = some (.areturn, 0, 0, 0, 0) := by decide +kernel
theorem c134 : 134 < mnames ∧ nA 134 = 4 ∧ nS 134 = 0 := by decide +kernel

theorem m134 : (134 ≠ ensK ∧ 134 < mnames) ∧ nA 134 = 4 ∧ nL 134 = 4 := by decide +kernel
theorem r134 : nR 134 = none := by decide +kernel
theorem i134_0 : ins 134 0 = some (.aload_n 0, 0, 0, 0, 0) := by decide +kernel
theorem i134_1 : ins 134 1 = some (.invokevirtual 335, 161, 209, 0, 0) := by decide +kernel
theorem i134_4 : ins 134 4 = some (.iload_n 3, 0, 0, 0, 0) := by decide +kernel
theorem i134_5 : ins 134 5 = some (.if_icmp .ne 23, 0, 0, 0, 0) := by decide +kernel
theorem g134_5 : tg 5 (23) = 28 := by decide
theorem i134_8 : ins 134 8 = some (.aload_n 0, 0, 0, 0, 0) := by decide +kernel
theorem i134_9 : ins 134 9 = some (.getfield 9, 0, 25, 0, 3) := by decide +kernel
theorem i134_12 : ins 134 12 = some (.iconst 0, 0, 0, 0, 0) := by decide +kernel
theorem i134_13 : ins 134 13 = some (.aload_n 1, 0, 0, 0, 0) := by decide +kernel
theorem i134_14 : ins 134 14 = some (.iload_n 2, 0, 0, 0, 0) := by decide +kernel
theorem i134_15 : ins 134 15 = some (.iload_n 3, 0, 0, 0, 0) := by decide +kernel
theorem i134_16 : ins 134 16 = some (.ishl, 0, 0, 0, 0) := by decide +kernel
theorem i134_17 : ins 134 17 = some (.aload_n 0, 0, 0, 0, 0) := by decide +kernel
theorem i134_18 : ins 134 18 = some (.getfield 9, 0, 25, 0, 3) := by decide +kernel
theorem i134_21 : ins 134 21 = some (.arraylength, 0, 0, 0, 0) := by decide +kernel
theorem i134_22 : ins 134 22 = some (.invokestatic 212, 2, 998, 0, 0) := by decide +kernel
theorem i134_25 : ins 134 25 = some (.goto 18, 0, 0, 0, 0) := by decide +kernel
theorem g134_25 : tg 25 (18) = 43 := by decide
theorem i134_28 : ins 134 28 = some (.aload_n 0, 0, 0, 0, 0) := by decide +kernel
theorem i134_29 : ins 134 29 = some (.getfield 9, 0, 25, 0, 3) := by decide +kernel
theorem i134_32 : ins 134 32 = some (.iconst 0, 0, 0, 0, 0) := by decide +kernel
theorem i134_33 : ins 134 33 = some (.aload_n 1, 0, 0, 0, 0) := by decide +kernel
theorem i134_34 : ins 134 34 = some (.iload_n 2, 0, 0, 0, 0) := by decide +kernel
theorem i134_35 : ins 134 35 = some (.aload_n 0, 0, 0, 0, 0) := by decide +kernel
theorem i134_36 : ins 134 36 = some (.getfield 9, 0, 25, 0, 3) := by decide +kernel
theorem i134_39 : ins 134 39 = some (.arraylength, 0, 0, 0, 0) := by decide +kernel
theorem i134_40 : ins 134 40 = some (.invokestatic 106, 0, 999, 0, 0) := by decide +kernel
theorem i134_43 : ins 134 43 = some (.return_, 0, 0, 0, 0) := by decide +kernel
theorem c135 : 135 < mnames ∧ nA 135 = 1 ∧ nS 135 = 0 := by decide +kernel

theorem m135 : (135 ≠ ensK ∧ 135 < mnames) ∧ nA 135 = 1 ∧ nL 135 = 1 := by decide +kernel
theorem r135 : nR 135 = (some (.object "java/lang/String")) := by decide +kernel
theorem i135_0 : ins 135 0 = some (.new 18, 1, 9, 0, 0) := by decide +kernel
theorem i135_3 : ins 135 3 = some (.dup, 0, 0, 0, 0) := by decide +kernel
theorem i135_4 : ins 135 4 = some (.aload_n 0, 0, 0, 0, 0) := by decide +kernel
theorem i135_5 : ins 135 5 = some (.invokespecial 137, 162, 136, 4, 0) := by decide +kernel
theorem i135_8 : ins 135 8 = some (.areturn, 0, 0, 0, 0) := by decide +kernel
theorem c136 : 136 < mnames ∧ nA 136 = 2 ∧ nS 136 = 0 := by decide +kernel

theorem m136 : (136 ≠ ensK ∧ 136 < mnames) ∧ nA 136 = 2 ∧ nL 136 = 2 := by decide +kernel
theorem r136 : nR 136 = none := by decide +kernel
theorem i136_0 : ins 136 0 = some (.aload_n 0, 0, 0, 0, 0) := by decide +kernel
theorem i136_1 : ins 136 1 = some (.aload_n 1, 0, 0, 0, 0) := by decide +kernel
theorem i136_2 : ins 136 2 = some (.aconst_null, 0, 0, 0, 0) := by decide +kernel
theorem i136_3 : ins 136 3 = some (.invokespecial 489, 163, 137, 4, 0) := by decide +kernel
theorem i136_6 : ins 136 6 = some (.return_, 0, 0, 0, 0) := by decide +kernel
theorem c137 : 137 < mnames ∧ nA 137 = 3 ∧ nS 137 = 0 := by decide +kernel

theorem m137 : (137 ≠ ensK ∧ 137 < mnames) ∧ nA 137 = 3 ∧ nL 137 = 5 := by decide +kernel
theorem r137 : nR 137 = none := by decide +kernel
theorem i137_0 : ins 137 0 = some (.aload_n 0, 0, 0, 0, 0) := by decide +kernel
theorem i137_1 : ins 137 1 = some (.invokespecial 1, 2, 996, 0, 0) := by decide +kernel
theorem i137_4 : ins 137 4 = some (.aload_n 1, 0, 0, 0, 0) := by decide +kernel
theorem i137_5 : ins 137 5 = some (.invokevirtual 552, 164, 138, 2, 0) := by decide +kernel
theorem i137_8 : ins 137 8 = some (.astore_n 3, 0, 0, 0, 0) := by decide +kernel
theorem i137_9 : ins 137 9 = some (.aload_n 1, 0, 0, 0, 0) := by decide +kernel
theorem i137_10 : ins 137 10 = some (.invokevirtual 549, 165, 193, 6, 0) := by decide +kernel
theorem i137_13 : ins 137 13 = some (.istore 4, 0, 0, 0, 0) := by decide +kernel
theorem i137_15 : ins 137 15 = some (.aload_n 1, 0, 0, 0, 0) := by decide +kernel
theorem i137_16 : ins 137 16 = some (.invokevirtual 1047, 166, 199, 2, 0) := by decide +kernel
theorem i137_19 : ins 137 19 = some (.ifCond .eq 22, 0, 0, 0, 0) := by decide +kernel
theorem g137_19 : tg 19 (22) = 41 := by decide
theorem i137_22 : ins 137 22 = some (.aload_n 0, 0, 0, 0, 0) := by decide +kernel
theorem i137_23 : ins 137 23 = some (.iconst 0, 0, 0, 0, 0) := by decide +kernel
theorem i137_24 : ins 137 24 = some (.putfield 15, 1, 25, 1, 2) := by decide +kernel
theorem i137_27 : ins 137 27 = some (.aload_n 0, 0, 0, 0, 0) := by decide +kernel
theorem i137_28 : ins 137 28 = some (.aload_n 3, 0, 0, 0, 0) := by decide +kernel
theorem i137_29 : ins 137 29 = some (.iconst 0, 0, 0, 0, 0) := by decide +kernel
theorem i137_30 : ins 137 30 = some (.iload 4, 0, 0, 0, 0) := by decide +kernel
theorem i137_32 : ins 137 32 = some (.invokestatic 54, 167, 139, 1, 0) := by decide +kernel
theorem i137_35 : ins 137 35 = some (.putfield 9, 0, 25, 0, 3) := by decide +kernel
theorem i137_38 : ins 137 38 = some (.goto 59, 0, 0, 0, 0) := by decide +kernel
theorem g137_38 : tg 38 (59) = 97 := by decide
theorem i137_41 : ins 137 41 = some (.getstatic 38, 1, 0, 0, 0) := by decide +kernel
theorem i137_44 : ins 137 44 = some (.ifCond .eq 35, 0, 0, 0, 0) := by decide +kernel
theorem g137_44 : tg 44 (35) = 79 := by decide
theorem i137_47 : ins 137 47 = some (.aload_n 1, 0, 0, 0, 0) := by decide +kernel
theorem i137_48 : ins 137 48 = some (.getfield 1048, 87, 0, 2, 1) := by decide +kernel
theorem i137_51 : ins 137 51 = some (.ifCond .eq 28, 0, 0, 0, 0) := by decide +kernel
theorem g137_51 : tg 51 (28) = 79 := by decide
theorem i137_54 : ins 137 54 = some (.aload_n 0, 0, 0, 0, 0) := by decide +kernel
theorem i137_55 : ins 137 55 = some (.aload_n 3, 0, 0, 0, 0) := by decide +kernel
theorem i137_56 : ins 137 56 = some (.iconst 0, 0, 0, 0, 0) := by decide +kernel
theorem i137_57 : ins 137 57 = some (.iload 4, 0, 0, 0, 0) := by decide +kernel
theorem i137_59 : ins 137 59 = some (.invokestatic 1051, 0, 999, 0, 0) := by decide +kernel
theorem i137_62 : ins 137 62 = some (.putfield 9, 0, 25, 0, 3) := by decide +kernel
theorem i137_65 : ins 137 65 = some (.aload_n 0, 0, 0, 0, 0) := by decide +kernel
theorem i137_66 : ins 137 66 = some (.aload_n 0, 0, 0, 0, 0) := by decide +kernel
theorem i137_67 : ins 137 67 = some (.getfield 9, 0, 25, 0, 3) := by decide +kernel
theorem i137_70 : ins 137 70 = some (.iload 4, 0, 0, 0, 0) := by decide +kernel
theorem i137_72 : ins 137 72 = some (.invokestatic 47, 0, 999, 0, 0) := by decide +kernel
theorem i137_75 : ins 137 75 = some (.putfield 15, 1, 25, 1, 2) := by decide +kernel
theorem i137_78 : ins 137 78 = some (.return_, 0, 0, 0, 0) := by decide +kernel
theorem i137_79 : ins 137 79 = some (.aload_n 0, 0, 0, 0, 0) := by decide +kernel
theorem i137_80 : ins 137 80 = some (.iconst 1, 0, 0, 0, 0) := by decide +kernel
theorem i137_81 : ins 137 81 = some (.putfield 15, 1, 25, 1, 2) := by decide +kernel
theorem i137_84 : ins 137 84 = some (.aload_n 0, 0, 0, 0, 0) := by decide +kernel
theorem i137_85 : ins 137 85 = some (.aload_n 3, 0, 0, 0, 0) := by decide +kernel
theorem i137_86 : ins 137 86 = some (.iconst 0, 0, 0, 0, 0) := by decide +kernel
theorem i137_87 : ins 137 87 = some (.iload 4, 0, 0, 0, 0) := by decide +kernel
theorem i137_89 : ins 137 89 = some (.iconst 1, 0, 0, 0, 0) := by decide +kernel
theorem i137_90 : ins 137 90 = some (.ishl, 0, 0, 0, 0) := by decide +kernel
theorem i137_91 : ins 137 91 = some (.invokestatic 54, 167, 139, 1, 0) := by decide +kernel
theorem i137_94 : ins 137 94 = some (.putfield 9, 0, 25, 0, 3) := by decide +kernel
theorem i137_97 : ins 137 97 = some (.return_, 0, 0, 0, 0) := by decide +kernel
theorem c138 : 138 < mnames ∧ nA 138 = 1 ∧ nS 138 = 0 := by decide +kernel

theorem m138 : (138 ≠ ensK ∧ 138 < mnames) ∧ nA 138 = 1 ∧ nL 138 = 1 := by decide +kernel
theorem r138 : nR 138 = (some (.array .byte)) := by decide +kernel
theorem i138_0 : ins 138 0 = some (.aload_n 0, 0, 0, 0, 0) := by decide +kernel
theorem i138_1 : ins 138 1 = some (.getfield 15, 84, 0, 0, 3) := by decide +kernel
theorem i138_4 : ins 138 4 = some (.areturn, 0, 0, 0, 0) := by decide +kernel
theorem c139 : 139 < mnames ∧ nA 139 = 3 ∧ nS 139 = 1 := by decide +kernel
theorem m139 : (139 ≠ ensK ∧ 139 < mnames) ∧ nA 139 = 3 ∧ nL 139 = 3 := by decide +kernel
theorem r139 : nR 139 = (some (.array .byte)) := by decide +kernel
theorem i139_0 : ins 139 0 = some (.iload_n 1, 0, 0, 0, 0) := by decide +kernel
theorem i139_1 : ins 139 1 = some (.ifCond .ne 9, 0, 0, 0, 0) := by decide +kernel
theorem g139_1 : tg 1 (9) = 10 := by decide
theorem i139_4 : ins 139 4 = some (.iload_n 2, 0, 0, 0, 0) := by decide +kernel
theorem i139_5 : ins 139 5 = some (.aload_n 0, 0, 0, 0, 0) := by decide +kernel
theorem i139_6 : ins 139 6 = some (.arraylength, 0, 0, 0, 0) := by decide +kernel
theorem i139_7 : ins 139 7 = some (.if_icmp .eq 10, 0, 0, 0, 0) := by decide +kernel
theorem g139_7 : tg 7 (10) = 17 := by decide
theorem i139_10 : ins 139 10 = some (.aload_n 0, 0, 0, 0, 0) := by decide +kernel
theorem i139_11 : ins 139 11 = some (.iload_n 1, 0, 0, 0, 0) := by decide +kernel
theorem i139_12 : ins 139 12 = some (.iload_n 2, 0, 0, 0, 0) := by decide +kernel
theorem i139_13 : ins 139 13 = some (.invokestatic 339, 168, 140, 1, 0) := by decide +kernel
theorem i139_16 : ins 139 16 = some (.areturn, 0, 0, 0, 0) := by decide +kernel
theorem i139_17 : ins 139 17 = some (.aload_n 0, 0, 0, 0, 0) := by decide +kernel
theorem i139_18 : ins 139 18 = some (.invokevirtual 310, 0, 997, 0, 0) := by decide +kernel
theorem i139_21 : ins 139 21 = some (.checkcast 311, 0, 1, 0, 0) := by decide +kernel
theorem i139_24 : ins 139 24 = some (.areturn, 0, 0, 0, 0) := by decide +kernel
theorem c140 : 140 < mnames ∧ nA 140 = 3 ∧ nS 140 = 1 := by decide +kernel
theorem m140 : (140 ≠ ensK ∧ 140 < mnames) ∧ nA 140 = 3 ∧ nL 140 = 5 := by decide +kernel
theorem r140 : nR 140 = (some (.array .byte)) := by decide +kernel
theorem i140_0 : ins 140 0 = some (.iload_n 1, 0, 0, 0, 0) := by decide +kernel
theorem i140_1 : ins 140 1 = some (.iload_n 2, 0, 0, 0, 0) := by decide +kernel
theorem i140_2 : ins 140 2 = some (.invokestatic 343, 169, 141, 1, 0) := by decide +kernel
theorem i140_5 : ins 140 5 = some (.iload_n 2, 0, 0, 0, 0) := by decide +kernel
theorem i140_6 : ins 140 6 = some (.iload_n 1, 0, 0, 0, 0) := by decide +kernel
theorem i140_7 : ins 140 7 = some (.isub, 0, 0, 0, 0) := by decide +kernel
theorem i140_8 : ins 140 8 = some (.istore_n 3, 0, 0, 0, 0) := by decide +kernel
theorem i140_9 : ins 140 9 = some (.iload_n 3, 0, 0, 0, 0) := by decide +kernel
theorem i140_10 : ins 140 10 = some (.newarray .byte, 0, 0, 0, 0) := by decide +kernel
theorem i140_12 : ins 140 12 = some (.astore 4, 0, 0, 0, 0) := by decide +kernel
theorem i140_14 : ins 140 14 = some (.aload_n 0, 0, 0, 0, 0) := by decide +kernel
theorem i140_15 : ins 140 15 = some (.iload_n 1, 0, 0, 0, 0) := by decide +kernel
theorem i140_16 : ins 140 16 = some (.aload 4, 0, 0, 0, 0) := by decide +kernel
theorem i140_18 : ins 140 18 = some (.iconst 0, 0, 0, 0, 0) := by decide +kernel
theorem i140_19 : ins 140 19 = some (.aload_n 0, 0, 0, 0, 0) := by decide +kernel
theorem i140_20 : ins 140 20 = some (.arraylength, 0, 0, 0, 0) := by decide +kernel
theorem i140_21 : ins 140 21 = some (.iload_n 1, 0, 0, 0, 0) := by decide +kernel
theorem i140_22 : ins 140 22 = some (.isub, 0, 0, 0, 0) := by decide +kernel
theorem i140_23 : ins 140 23 = some (.iload_n 3, 0, 0, 0, 0) := by decide +kernel
theorem i140_24 : ins 140 24 = some (.invokestatic 304, 160, 202, 1, 0) := by decide +kernel
theorem i140_27 : ins 140 27 = some (.invokestatic 150, 1, 998, 0, 0) := by decide +kernel
theorem i140_30 : ins 140 30 = some (.aload 4, 0, 0, 0, 0) := by decide +kernel
theorem i140_32 : ins 140 32 = some (.areturn, 0, 0, 0, 0) := by decide +kernel
theorem c141 : 141 < mnames ∧ nA 141 = 2 ∧ nS 141 = 1 := by decide +kernel
theorem m141 : (141 ≠ ensK ∧ 141 < mnames) ∧ nA 141 = 2 ∧ nL 141 = 2 := by decide +kernel
theorem r141 : nR 141 = none := by decide +kernel
theorem i141_0 : ins 141 0 = some (.iload_n 1, 0, 0, 0, 0) := by decide +kernel
theorem i141_1 : ins 141 1 = some (.iload_n 0, 0, 0, 0, 0) := by decide +kernel
theorem i141_2 : ins 141 2 = some (.if_icmp .ge 35, 0, 0, 0, 0) := by decide +kernel
theorem g141_2 : tg 2 (35) = 37 := by decide
theorem i141_5 : ins 141 5 = some (.new 43, 0, 999, 0, 0) := by decide +kernel
theorem i141_8 : ins 141 8 = some (.dup, 0, 0, 0, 0) := by decide +kernel
theorem i141_9 : ins 141 9 = some (.new 45, 0, 999, 0, 0) := by decide +kernel
theorem i141_12 : ins 141 12 = some (.dup, 0, 0, 0, 0) := by decide +kernel
theorem i141_13 : ins 141 13 = some (.invokespecial 47, 0, 999, 0, 0) := by decide +kernel
theorem i141_16 : ins 141 16 = some (.iload_n 0, 0, 0, 0, 0) := by decide +kernel
theorem i141_17 : ins 141 17 = some (.invokevirtual 54, 0, 999, 0, 0) := by decide +kernel
theorem i141_20 : ins 141 20 = some (.ldc_w 337, 0, 0, 0, 0) := by decide +kernel
theorem i141_23 : ins 141 23 = some (.invokevirtual 50, 0, 999, 0, 0) := by decide +kernel
theorem i141_26 : ins 141 26 = some (.iload_n 1, 0, 0, 0, 0) := by decide +kernel
theorem i141_27 : ins 141 27 = some (.invokevirtual 54, 0, 999, 0, 0) := by decide +kernel
theorem i141_30 : ins 141 30 = some (.invokevirtual 61, 0, 999, 0, 0) := by decide +kernel
theorem i141_33 : ins 141 33 = some (.invokespecial 65, 0, 999, 0, 0) := by decide +kernel
theorem i141_36 : ins 141 36 = some (.athrow, 0, 0, 0, 0) := by decide +kernel
theorem i141_37 : ins 141 37 = some (.return_, 0, 0, 0, 0) := by decide +kernel
theorem c142 : 142 < mnames ∧ nA 142 = 2 ∧ nS 142 = 0 := by decide +kernel

theorem m142 : (142 ≠ ensK ∧ 142 < mnames) ∧ nA 142 = 2 ∧ nL 142 = 3 := by decide +kernel
theorem r142 : nR 142 = (some .boolean) := by decide +kernel
theorem i142_0 : ins 142 0 = some (.aload_n 0, 0, 0, 0, 0) := by decide +kernel
theorem i142_1 : ins 142 1 = some (.aload_n 1, 0, 0, 0, 0) := by decide +kernel
theorem i142_2 : ins 142 2 = some (.if_acmp .ne 5, 0, 0, 0, 0) := by decide +kernel
theorem g142_2 : tg 2 (5) = 7 := by decide
theorem i142_5 : ins 142 5 = some (.iconst 1, 0, 0, 0, 0) := by decide +kernel
theorem i142_6 : ins 142 6 = some (.ireturn, 0, 0, 0, 0) := by decide +kernel
theorem i142_7 : ins 142 7 = some (.aload_n 1, 0, 0, 0, 0) := by decide +kernel
theorem i142_8 : ins 142 8 = some (.instanceof 10, 1, 0, 0, 0) := by decide +kernel
theorem i142_11 : ins 142 11 = some (.ifCond .eq 43, 0, 0, 0, 0) := by decide +kernel
theorem g142_11 : tg 11 (43) = 54 := by decide
theorem i142_14 : ins 142 14 = some (.aload_n 1, 0, 0, 0, 0) := by decide +kernel
theorem i142_15 : ins 142 15 = some (.checkcast 10, 1, 0, 0, 0) := by decide +kernel
theorem i142_18 : ins 142 18 = some (.astore_n 2, 0, 0, 0, 0) := by decide +kernel
theorem i142_19 : ins 142 19 = some (.getstatic 38, 1, 0, 0, 0) := by decide +kernel
theorem i142_22 : ins 142 22 = some (.ifCond .eq 14, 0, 0, 0, 0) := by decide +kernel
theorem g142_22 : tg 22 (14) = 36 := by decide
theorem i142_25 : ins 142 25 = some (.aload_n 0, 0, 0, 0, 0) := by decide +kernel
theorem i142_26 : ins 142 26 = some (.getfield 15, 1, 25, 1, 2) := by decide +kernel
theorem i142_29 : ins 142 29 = some (.aload_n 2, 0, 0, 0, 0) := by decide +kernel
theorem i142_30 : ins 142 30 = some (.getfield 15, 1, 25, 1, 2) := by decide +kernel
theorem i142_33 : ins 142 33 = some (.if_icmp .ne 21, 0, 0, 0, 0) := by decide +kernel
theorem g142_33 : tg 33 (21) = 54 := by decide
theorem i142_36 : ins 142 36 = some (.aload_n 0, 0, 0, 0, 0) := by decide +kernel
theorem i142_37 : ins 142 37 = some (.getfield 9, 0, 25, 0, 3) := by decide +kernel
theorem i142_40 : ins 142 40 = some (.aload_n 2, 0, 0, 0, 0) := by decide +kernel
theorem i142_41 : ins 142 41 = some (.getfield 9, 0, 25, 0, 3) := by decide +kernel
theorem i142_44 : ins 142 44 = some (.invokestatic 541, 170, 143, 1, 0) := by decide +kernel
theorem i142_47 : ins 142 47 = some (.ifCond .eq 7, 0, 0, 0, 0) := by decide +kernel
theorem g142_47 : tg 47 (7) = 54 := by decide
theorem i142_50 : ins 142 50 = some (.iconst 1, 0, 0, 0, 0) := by decide +kernel
theorem i142_51 : ins 142 51 = some (.goto 4, 0, 0, 0, 0) := by decide +kernel
theorem g142_51 : tg 51 (4) = 55 := by decide
theorem i142_54 : ins 142 54 = some (.iconst 0, 0, 0, 0, 0) := by decide +kernel
theorem i142_55 : ins 142 55 = some (.ireturn, 0, 0, 0, 0) := by decide +kernel
theorem c143 : 143 < mnames ∧ nA 143 = 2 ∧ nS 143 = 1 := by decide +kernel
theorem m143 : (143 ≠ ensK ∧ 143 < mnames) ∧ nA 143 = 2 ∧ nL 143 = 3 := by decide +kernel
theorem r143 : nR 143 = (some .boolean) := by decide +kernel
theorem i143_0 : ins 143 0 = some (.aload_n 0, 0, 0, 0, 0) := by decide +kernel
theorem i143_1 : ins 143 1 = some (.arraylength, 0, 0, 0, 0) := by decide +kernel
theorem i143_2 : ins 143 2 = some (.aload_n 1, 0, 0, 0, 0) := by decide +kernel
theorem i143_3 : ins 143 3 = some (.arraylength, 0, 0, 0, 0) := by decide +kernel
theorem i143_4 : ins 143 4 = some (.if_icmp .ne 30, 0, 0, 0, 0) := by decide +kernel
theorem g143_4 : tg 4 (30) = 34 := by decide
theorem i143_7 : ins 143 7 = some (.iconst 0, 0, 0, 0, 0) := by decide +kernel
theorem i143_8 : ins 143 8 = some (.istore_n 2, 0, 0, 0, 0) := by decide +kernel
theorem i143_9 : ins 143 9 = some (.iload_n 2, 0, 0, 0, 0) := by decide +kernel
theorem i143_10 : ins 143 10 = some (.aload_n 0, 0, 0, 0, 0) := by decide +kernel
theorem i143_11 : ins 143 11 = some (.arraylength, 0, 0, 0, 0) := by decide +kernel
theorem i143_12 : ins 143 12 = some (.if_icmp .ge 20, 0, 0, 0, 0) := by decide +kernel
theorem g143_12 : tg 12 (20) = 32 := by decide
theorem i143_15 : ins 143 15 = some (.aload_n 0, 0, 0, 0, 0) := by decide +kernel
theorem i143_16 : ins 143 16 = some (.iload_n 2, 0, 0, 0, 0) := by decide +kernel
theorem i143_17 : ins 143 17 = some (.baload, 0, 0, 0, 0) := by decide +kernel
theorem i143_18 : ins 143 18 = some (.aload_n 1, 0, 0, 0, 0) := by decide +kernel
theorem i143_19 : ins 143 19 = some (.iload_n 2, 0, 0, 0, 0) := by decide +kernel
theorem i143_20 : ins 143 20 = some (.baload, 0, 0, 0, 0) := by decide +kernel
theorem i143_21 : ins 143 21 = some (.if_icmp .eq 5, 0, 0, 0, 0) := by decide +kernel
theorem g143_21 : tg 21 (5) = 26 := by decide
theorem i143_24 : ins 143 24 = some (.iconst 0, 0, 0, 0, 0) := by decide +kernel
theorem i143_25 : ins 143 25 = some (.ireturn, 0, 0, 0, 0) := by decide +kernel
theorem i143_26 : ins 143 26 = some (.iinc 2 1, 0, 0, 0, 0) := by decide +kernel
theorem i143_29 : ins 143 29 = some (.goto (-20), 0, 0, 0, 0) := by decide +kernel
theorem g143_29 : tg 29 (-20) = 9 := by decide
theorem i143_32 : ins 143 32 = some (.iconst 1, 0, 0, 0, 0) := by decide +kernel
theorem i143_33 : ins 143 33 = some (.ireturn, 0, 0, 0, 0) := by decide +kernel
theorem i143_34 : ins 143 34 = some (.iconst 0, 0, 0, 0, 0) := by decide +kernel
theorem i143_35 : ins 143 35 = some (.ireturn, 0, 0, 0, 0) := by decide +kernel
theorem r217 : nR 217 = none := by decide +kernel
theorem i217_0 : ins 217 0 = some (.aload_n 0, 0, 0, 0, 0) := by decide +kernel
theorem i217_1 : ins 217 1 = some (.getfield 15, 84, 0, 0, 3) := by decide +kernel
theorem i217_4 : ins 217 4 = some (.arraylength, 0, 0, 0, 0) := by decide +kernel
theorem i217_5 : ins 217 5 = some (.aload_n 0, 0, 0, 0, 0) := by decide +kernel
theorem i217_6 : ins 217 6 = some (.getfield 22, 85, 0, 1, 2) := by decide +kernel
theorem i217_9 : ins 217 9 = some (.ishr, 0, 0, 0, 0) := by decide +kernel
theorem i217_10 : ins 217 10 = some (.istore_n 2, 0, 0, 0, 0) := by decide +kernel
theorem i217_11 : ins 217 11 = some (.iload_n 1, 0, 0, 0, 0) := by decide +kernel
theorem i217_12 : ins 217 12 = some (.iload_n 2, 0, 0, 0, 0) := by decide +kernel
theorem i217_13 : ins 217 13 = some (.isub, 0, 0, 0, 0) := by decide +kernel
theorem i217_14 : ins 217 14 = some (.ifCond .le 24, 0, 0, 0, 0) := by decide +kernel
theorem g217_14 : tg 14 (24) = 38 := by decide
theorem i217_17 : ins 217 17 = some (.aload_n 0, 0, 0, 0, 0) := by decide +kernel
theorem i217_18 : ins 217 18 = some (.aload_n 0, 0, 0, 0, 0) := by decide +kernel
theorem i217_19 : ins 217 19 = some (.getfield 15, 84, 0, 0, 3) := by decide +kernel
theorem i217_22 : ins 217 22 = some (.aload_n 0, 0, 0, 0, 0) := by decide +kernel
theorem i217_23 : ins 217 23 = some (.iload_n 1, 0, 0, 0, 0) := by decide +kernel
theorem i217_24 : ins 217 24 = some (.invokevirtual 104, 193, 131, 2, 0) := by decide +kernel
theorem i217_27 : ins 217 27 = some (.aload_n 0, 0, 0, 0, 0) := by decide +kernel
theorem i217_28 : ins 217 28 = some (.getfield 22, 85, 0, 1, 2) := by decide +kernel
theorem i217_31 : ins 217 31 = some (.ishl, 0, 0, 0, 0) := by decide +kernel
theorem i217_32 : ins 217 32 = some (.invokestatic 108, 194, 133, 1, 0) := by decide +kernel
theorem i217_35 : ins 217 35 = some (.putfield 15, 84, 0, 0, 3) := by decide +kernel
theorem i217_38 : ins 217 38 = some (.return_, 0, 0, 0, 0) := by decide +kernel
theorem c218z : nA 218 = 1 ∧ nL 218 = 10 := by decide +kernel
theorem r218 : nR 218 = ret := by decide +kernel
theorem i218_0 : ins 218 0 = some (.new 18, 0, 999, 0, 0) := by decide +kernel
theorem i218_3 : ins 218 3 = some (.dup, 0, 0, 0, 0) := by decide +kernel
theorem i218_4 : ins 218 4 = some (.invokespecial 192, 0, 999, 0, 0) := by decide +kernel
theorem i218_7 : ins 218 7 = some (.astore_n 1, 0, 0, 0, 0) := by decide +kernel
theorem i218_8 : ins 218 8 = some (.iconst 0, 0, 0, 0, 0) := by decide +kernel
theorem i218_9 : ins 218 9 = some (.istore_n 2, 0, 0, 0, 0) := by decide +kernel
theorem i218_10 : ins 218 10 = some (.aload_n 1, 0, 0, 0, 0) := by decide +kernel
theorem i218_11 : ins 218 11 = some (.invokevirtual 193, 195, 82, 0, 0) := by decide +kernel
theorem i218_14 : ins 218 14 = some (.sipush (-1015), 0, 0, 0, 0) := by decide +kernel
theorem i218_17 : ins 218 17 = some (.if_icmp .ne 244, 0, 0, 0, 0) := by decide +kernel
theorem g218_17 : tg 17 (244) = 261 := by decide
theorem i218_20 : ins 218 20 = some (.aload_n 1, 0, 0, 0, 0) := by decide +kernel
theorem i218_21 : ins 218 21 = some (.invokevirtual 186, 145, 84, 0, 0) := by decide +kernel
theorem i218_24 : ins 218 24 = some (.sipush (-1015), 0, 0, 0, 0) := by decide +kernel
theorem i218_27 : ins 218 27 = some (.if_icmp .ne 234, 0, 0, 0, 0) := by decide +kernel
theorem g218_27 : tg 27 (234) = 261 := by decide
theorem i218_30 : ins 218 30 = some (.aload_n 1, 0, 0, 0, 0) := by decide +kernel
theorem i218_31 : ins 218 31 = some (.iconst 0, 0, 0, 0, 0) := by decide +kernel
theorem i218_32 : ins 218 32 = some (.iconst 0, 0, 0, 0, 0) := by decide +kernel
theorem i218_33 : ins 218 33 = some (.invokevirtual 182, 144, 79, 0, 0) := by decide +kernel
theorem i218_36 : ins 218 36 = some (.sipush (-1015), 0, 0, 0, 0) := by decide +kernel
theorem i218_39 : ins 218 39 = some (.if_icmp .ne 222, 0, 0, 0, 0) := by decide +kernel
theorem g218_39 : tg 39 (222) = 261 := by decide
theorem i218_42 : ins 218 42 = some (.aload_n 1, 0, 0, 0, 0) := by decide +kernel
theorem i218_43 : ins 218 43 = some (.iconst 3, 0, 0, 0, 0) := by decide +kernel
theorem i218_44 : ins 218 44 = some (.iconst 0, 0, 0, 0, 0) := by decide +kernel
theorem i218_45 : ins 218 45 = some (.invokevirtual 182, 144, 79, 0, 0) := by decide +kernel
theorem i218_48 : ins 218 48 = some (.sipush (-1012), 0, 0, 0, 0) := by decide +kernel
theorem i218_51 : ins 218 51 = some (.if_icmp .ne 210, 0, 0, 0, 0) := by decide +kernel
theorem g218_51 : tg 51 (210) = 261 := by decide
theorem i218_54 : ins 218 54 = some (.aload_n 1, 0, 0, 0, 0) := by decide +kernel
theorem i218_55 : ins 218 55 = some (.invokevirtual 196, 196, 75, 0, 0) := by decide +kernel
theorem i218_58 : ins 218 58 = some (.sipush (-2000), 0, 0, 0, 0) := by decide +kernel
theorem i218_61 : ins 218 61 = some (.if_icmp .ne 200, 0, 0, 0, 0) := by decide +kernel
theorem g218_61 : tg 61 (200) = 261 := by decide
theorem i218_64 : ins 218 64 = some (.aload_n 1, 0, 0, 0, 0) := by decide +kernel
theorem i218_65 : ins 218 65 = some (.iconst 0, 0, 0, 0, 0) := by decide +kernel
theorem i218_66 : ins 218 66 = some (.invokevirtual 77, 118, 78, 0, 0) := by decide +kernel
theorem i218_69 : ins 218 69 = some (.sipush (-1011), 0, 0, 0, 0) := by decide +kernel
theorem i218_72 : ins 218 72 = some (.if_icmp .ne 189, 0, 0, 0, 0) := by decide +kernel
theorem g218_72 : tg 72 (189) = 261 := by decide
theorem i218_75 : ins 218 75 = some (.aload_n 1, 0, 0, 0, 0) := by decide +kernel
theorem i218_76 : ins 218 76 = some (.bipush 6, 0, 0, 0, 0) := by decide +kernel
theorem i218_78 : ins 218 78 = some (.iconst 1, 0, 0, 0, 0) := by decide +kernel
theorem i218_79 : ins 218 79 = some (.iconst 1, 0, 0, 0, 0) := by decide +kernel
theorem i218_80 : ins 218 80 = some (.invokevirtual 43, 107, 54, 0, 0) := by decide +kernel
theorem i218_83 : ins 218 83 = some (.sipush (-1011), 0, 0, 0, 0) := by decide +kernel
theorem i218_86 : ins 218 86 = some (.if_icmp .ne 175, 0, 0, 0, 0) := by decide +kernel
theorem g218_86 : tg 86 (175) = 261 := by decide
theorem i218_89 : ins 218 89 = some (.aload_n 1, 0, 0, 0, 0) := by decide +kernel
theorem i218_90 : ins 218 90 = some (.iconst 0, 0, 0, 0, 0) := by decide +kernel
theorem i218_91 : ins 218 91 = some (.bipush 31, 0, 0, 0, 0) := by decide +kernel
theorem i218_93 : ins 218 93 = some (.iconst 1, 0, 0, 0, 0) := by decide +kernel
theorem i218_94 : ins 218 94 = some (.invokevirtual 43, 107, 54, 0, 0) := by decide +kernel
theorem i218_97 : ins 218 97 = some (.sipush (-1012), 0, 0, 0, 0) := by decide +kernel
theorem i218_100 : ins 218 100 = some (.if_icmp .ne 161, 0, 0, 0, 0) := by decide +kernel
theorem g218_100 : tg 100 (161) = 261 := by decide
theorem i218_103 : ins 218 103 = some (.aload_n 1, 0, 0, 0, 0) := by decide +kernel
theorem i218_104 : ins 218 104 = some (.iconst 0, 0, 0, 0, 0) := by decide +kernel
theorem i218_105 : ins 218 105 = some (.iconst 1, 0, 0, 0, 0) := by decide +kernel
theorem i218_106 : ins 218 106 = some (.invokevirtual 47, 108, 55, 0, 0) := by decide +kernel
theorem i218_109 : ins 218 109 = some (.sipush (-1011), 0, 0, 0, 0) := by decide +kernel
theorem i218_112 : ins 218 112 = some (.if_icmp .ne 149, 0, 0, 0, 0) := by decide +kernel
theorem g218_112 : tg 112 (149) = 261 := by decide
theorem i218_115 : ins 218 115 = some (.aload_n 1, 0, 0, 0, 0) := by decide +kernel
theorem i218_116 : ins 218 116 = some (.invokevirtual 59, 112, 60, 0, 0) := by decide +kernel
theorem i218_119 : ins 218 119 = some (.sipush (-1014), 0, 0, 0, 0) := by decide +kernel
theorem i218_122 : ins 218 122 = some (.if_icmp .ne 139, 0, 0, 0, 0) := by decide +kernel
theorem g218_122 : tg 122 (139) = 261 := by decide
theorem i218_125 : ins 218 125 = some (.aload_n 1, 0, 0, 0, 0) := by decide +kernel
theorem i218_126 : ins 218 126 = some (.iconst 0, 0, 0, 0, 0) := by decide +kernel
theorem i218_127 : ins 218 127 = some (.iconst 0, 0, 0, 0, 0) := by decide +kernel
theorem i218_128 : ins 218 128 = some (.invokevirtual 182, 144, 79, 0, 0) := by decide +kernel
theorem i218_131 : ins 218 131 = some (.bipush 11, 0, 0, 0, 0) := by decide +kernel
theorem i218_133 : ins 218 133 = some (.if_icmp .ne 128, 0, 0, 0, 0) := by decide +kernel
theorem g218_133 : tg 133 (128) = 261 := by decide
theorem i218_136 : ins 218 136 = some (.aload_n 1, 0, 0, 0, 0) := by decide +kernel
theorem i218_137 : ins 218 137 = some (.iconst 0, 0, 0, 0, 0) := by decide +kernel
theorem i218_138 : ins 218 138 = some (.iconst 1, 0, 0, 0, 0) := by decide +kernel
theorem i218_139 : ins 218 139 = some (.invokevirtual 182, 144, 79, 0, 0) := by decide +kernel
theorem i218_142 : ins 218 142 = some (.ifCond .ne 119, 0, 0, 0, 0) := by decide +kernel
theorem g218_142 : tg 142 (119) = 261 := by decide
theorem i218_145 : ins 218 145 = some (.aload_n 1, 0, 0, 0, 0) := by decide +kernel
theorem i218_146 : ins 218 146 = some (.iconst 0, 0, 0, 0, 0) := by decide +kernel
theorem i218_147 : ins 218 147 = some (.iconst 1, 0, 0, 0, 0) := by decide +kernel
theorem i218_148 : ins 218 148 = some (.iconst 1, 0, 0, 0, 0) := by decide +kernel
theorem i218_149 : ins 218 149 = some (.invokevirtual 62, 113, 63, 0, 0) := by decide +kernel
theorem i218_152 : ins 218 152 = some (.sipush (-1014), 0, 0, 0, 0) := by decide +kernel
theorem i218_155 : ins 218 155 = some (.if_icmp .ne 106, 0, 0, 0, 0) := by decide +kernel
theorem g218_155 : tg 155 (106) = 261 := by decide
theorem i218_158 : ins 218 158 = some (.aload_n 1, 0, 0, 0, 0) := by decide +kernel
theorem i218_159 : ins 218 159 = some (.iconst 0, 0, 0, 0, 0) := by decide +kernel
theorem i218_160 : ins 218 160 = some (.iconst 0, 0, 0, 0, 0) := by decide +kernel
theorem i218_161 : ins 218 161 = some (.invokevirtual 182, 144, 79, 0, 0) := by decide +kernel
theorem i218_164 : ins 218 164 = some (.bipush 13, 0, 0, 0, 0) := by decide +kernel
theorem i218_166 : ins 218 166 = some (.if_icmp .ne 95, 0, 0, 0, 0) := by decide +kernel
theorem g218_166 : tg 166 (95) = 261 := by decide
theorem i218_169 : ins 218 169 = some (.aload_n 1, 0, 0, 0, 0) := by decide +kernel
theorem i218_170 : ins 218 170 = some (.iconst 5, 0, 0, 0, 0) := by decide +kernel
theorem i218_171 : ins 218 171 = some (.iconst 0, 0, 0, 0, 0) := by decide +kernel
theorem i218_172 : ins 218 172 = some (.invokevirtual 65, 114, 64, 0, 0) := by decide +kernel
theorem i218_175 : ins 218 175 = some (.sipush (-1014), 0, 0, 0, 0) := by decide +kernel
theorem i218_178 : ins 218 178 = some (.if_icmp .ne 83, 0, 0, 0, 0) := by decide +kernel
theorem g218_178 : tg 178 (83) = 261 := by decide
theorem i218_181 : ins 218 181 = some (.aload_n 1, 0, 0, 0, 0) := by decide +kernel
theorem i218_182 : ins 218 182 = some (.iconst 0, 0, 0, 0, 0) := by decide +kernel
theorem i218_183 : ins 218 183 = some (.iconst 1, 0, 0, 0, 0) := by decide +kernel
theorem i218_184 : ins 218 184 = some (.invokevirtual 182, 144, 79, 0, 0) := by decide +kernel
theorem i218_187 : ins 218 187 = some (.ifCond .ne 74, 0, 0, 0, 0) := by decide +kernel
theorem g218_187 : tg 187 (74) = 261 := by decide
theorem i218_190 : ins 218 190 = some (.aload_n 1, 0, 0, 0, 0) := by decide +kernel
theorem i218_191 : ins 218 191 = some (.bipush 6, 0, 0, 0, 0) := by decide +kernel
theorem i218_193 : ins 218 193 = some (.iconst 0, 0, 0, 0, 0) := by decide +kernel
theorem i218_194 : ins 218 194 = some (.invokevirtual 65, 114, 64, 0, 0) := by decide +kernel
theorem i218_197 : ins 218 197 = some (.sipush (-1011), 0, 0, 0, 0) := by decide +kernel
theorem i218_200 : ins 218 200 = some (.if_icmp .ne 61, 0, 0, 0, 0) := by decide +kernel
theorem g218_200 : tg 200 (61) = 261 := by decide
theorem i218_203 : ins 218 203 = some (.aload_n 1, 0, 0, 0, 0) := by decide +kernel
theorem i218_204 : ins 218 204 = some (.bipush 25, 0, 0, 0, 0) := by decide +kernel
theorem i218_206 : ins 218 206 = some (.invokevirtual 71, 116, 66, 0, 0) := by decide +kernel
theorem i218_209 : ins 218 209 = some (.sipush (-1012), 0, 0, 0, 0) := by decide +kernel
theorem i218_212 : ins 218 212 = some (.if_icmp .ne 49, 0, 0, 0, 0) := by decide +kernel
theorem g218_212 : tg 212 (49) = 261 := by decide
theorem i218_215 : ins 218 215 = some (.aload_n 1, 0, 0, 0, 0) := by decide +kernel
theorem i218_216 : ins 218 216 = some (.iconst 5, 0, 0, 0, 0) := by decide +kernel
theorem i218_217 : ins 218 217 = some (.invokevirtual 173, 141, 68, 0, 0) := by decide +kernel
theorem i218_220 : ins 218 220 = some (.ifCond .ne 41, 0, 0, 0, 0) := by decide +kernel
theorem g218_220 : tg 220 (41) = 261 := by decide
theorem i218_223 : ins 218 223 = some (.aload_n 1, 0, 0, 0, 0) := by decide +kernel
theorem i218_224 : ins 218 224 = some (.invokevirtual 133, 131, 120, 0, 0) := by decide +kernel
theorem i218_227 : ins 218 227 = some (.dconst 0, 0, 0, 0, 0) := by decide +kernel
theorem i218_228 : ins 218 228 = some (.dcmp .l, 0, 0, 0, 0) := by decide +kernel
theorem i218_229 : ins 218 229 = some (.ifCond .ne 32, 0, 0, 0, 0) := by decide +kernel
theorem g218_229 : tg 229 (32) = 261 := by decide
theorem i218_232 : ins 218 232 = some (.aload_n 1, 0, 0, 0, 0) := by decide +kernel
theorem i218_233 : ins 218 233 = some (.invokevirtual 137, 132, 121, 0, 0) := by decide +kernel
theorem i218_236 : ins 218 236 = some (.fconst 0, 0, 0, 0, 0) := by decide +kernel
theorem i218_237 : ins 218 237 = some (.fcmp .l, 0, 0, 0, 0) := by decide +kernel
theorem i218_238 : ins 218 238 = some (.ifCond .ne 23, 0, 0, 0, 0) := by decide +kernel
theorem g218_238 : tg 238 (23) = 261 := by decide
theorem i218_241 : ins 218 241 = some (.aload_n 1, 0, 0, 0, 0) := by decide +kernel
theorem i218_242 : ins 218 242 = some (.bipush 14, 0, 0, 0, 0) := by decide +kernel
theorem i218_244 : ins 218 244 = some (.invokevirtual 40, 106, 80, 0, 0) := by decide +kernel
theorem i218_247 : ins 218 247 = some (.sipush (-1012), 0, 0, 0, 0) := by decide +kernel
theorem i218_250 : ins 218 250 = some (.if_icmp .ne 11, 0, 0, 0, 0) := by decide +kernel
theorem g218_250 : tg 250 (11) = 261 := by decide
theorem i218_253 : ins 218 253 = some (.aload_n 1, 0, 0, 0, 0) := by decide +kernel
theorem i218_254 : ins 218 254 = some (.invokevirtual 156, 136, 81, 0, 0) := by decide +kernel
theorem i218_257 : ins 218 257 = some (.iconst 1, 0, 0, 0, 0) := by decide +kernel
theorem i218_258 : ins 218 258 = some (.if_icmp .eq 5, 0, 0, 0, 0) := by decide +kernel
theorem g218_258 : tg 258 (5) = 263 := by decide
theorem i218_261 : ins 218 261 = some (.iconst 0, 0, 0, 0, 0) := by decide +kernel
theorem i218_262 : ins 218 262 = some (.ireturn, 0, 0, 0, 0) := by decide +kernel
theorem i218_263 : ins 218 263 = some (.aload_n 1, 0, 0, 0, 0) := by decide +kernel
theorem i218_264 : ins 218 264 = some (.invokestatic 199, 197, 112, 1, 0) := by decide +kernel
theorem i218_267 : ins 218 267 = some (.istore_n 3, 0, 0, 0, 0) := by decide +kernel
theorem i218_268 : ins 218 268 = some (.iconst 0, 0, 0, 0, 0) := by decide +kernel
theorem i218_269 : ins 218 269 = some (.istore 4, 0, 0, 0, 0) := by decide +kernel
theorem i218_271 : ins 218 271 = some (.iload 4, 0, 0, 0, 0) := by decide +kernel
theorem i218_273 : ins 218 273 = some (.bipush 16, 0, 0, 0, 0) := by decide +kernel
theorem i218_275 : ins 218 275 = some (.if_icmp .ge 234, 0, 0, 0, 0) := by decide +kernel
theorem g218_275 : tg 275 (234) = 509 := by decide
theorem i218_278 : ins 218 278 = some (.aload_n 0, 0, 0, 0, 0) := by decide +kernel
theorem i218_279 : ins 218 279 = some (.iload_n 2, 0, 0, 0, 0) := by decide +kernel
theorem i218_280 : ins 218 280 = some (.invokestatic 203, 198, 74, 1, 0) := by decide +kernel
theorem i218_283 : ins 218 283 = some (.sipush 255, 0, 0, 0, 0) := by decide +kernel
theorem i218_286 : ins 218 286 = some (.iand, 0, 0, 0, 0) := by decide +kernel
theorem i218_287 : ins 218 287 = some (.istore 5, 0, 0, 0, 0) := by decide +kernel
theorem i218_289 : ins 218 289 = some (.new 24, 2, 8, 0, 0) := by decide +kernel
theorem i218_292 : ins 218 292 = some (.dup, 0, 0, 0, 0) := by decide +kernel
theorem i218_293 : ins 218 293 = some (.aload_n 0, 0, 0, 0, 0) := by decide +kernel
theorem i218_294 : ins 218 294 = some (.iload_n 2, 0, 0, 0, 0) := by decide +kernel
theorem i218_295 : ins 218 295 = some (.iconst 1, 0, 0, 0, 0) := by decide +kernel
theorem i218_296 : ins 218 296 = some (.iadd, 0, 0, 0, 0) := by decide +kernel
theorem i218_297 : ins 218 297 = some (.invokestatic 203, 198, 74, 1, 0) := by decide +kernel
theorem i218_300 : ins 218 300 = some (.invokespecial 207, 199, 118, 4, 0) := by decide +kernel
theorem i218_303 : ins 218 303 = some (.astore 6, 0, 0, 0, 0) := by decide +kernel
theorem i218_305 : ins 218 305 = some (.iinc 2 2, 0, 0, 0, 0) := by decide +kernel
theorem i218_308 : ins 218 308 = some (.aload_n 1, 0, 0, 0, 0) := by decide +kernel
theorem i218_309 : ins 218 309 = some (.bipush 13, 0, 0, 0, 0) := by decide +kernel
theorem i218_311 : ins 218 311 = some (.invokevirtual 40, 106, 80, 0, 0) := by decide +kernel
theorem i218_314 : ins 218 314 = some (.istore 7, 0, 0, 0, 0) := by decide +kernel
theorem i218_316 : ins 218 316 = some (.aload_n 1, 0, 0, 0, 0) := by decide +kernel
theorem i218_317 : ins 218 317 = some (.invokestatic 210, 200, 111, 1, 0) := by decide +kernel
theorem i218_320 : ins 218 320 = some (.astore 8, 0, 0, 0, 0) := by decide +kernel
theorem i218_322 : ins 218 322 = some (.aload_n 1, 0, 0, 0, 0) := by decide +kernel
theorem i218_323 : ins 218 323 = some (.iload 5, 0, 0, 0, 0) := by decide +kernel
theorem i218_325 : ins 218 325 = some (.aload 6, 0, 0, 0, 0) := by decide +kernel
theorem i218_327 : ins 218 327 = some (.invokestatic 214, 201, 109, 1, 0) := by decide +kernel
theorem i218_330 : ins 218 330 = some (.istore 9, 0, 0, 0, 0) := by decide +kernel
theorem i218_332 : ins 218 332 = some (.iload 9, 0, 0, 0, 0) := by decide +kernel
theorem i218_334 : ins 218 334 = some (.sipush (-1011), 0, 0, 0, 0) := by decide +kernel
theorem i218_337 : ins 218 337 = some (.if_icmp .gt 17, 0, 0, 0, 0) := by decide +kernel
theorem g218_337 : tg 337 (17) = 354 := by decide
theorem i218_340 : ins 218 340 = some (.aload 8, 0, 0, 0, 0) := by decide +kernel
theorem i218_342 : ins 218 342 = some (.aload_n 1, 0, 0, 0, 0) := by decide +kernel
theorem i218_343 : ins 218 343 = some (.invokestatic 210, 200, 111, 1, 0) := by decide +kernel
theorem i218_346 : ins 218 346 = some (.invokevirtual 129, 130, 142, 0, 0) := by decide +kernel
theorem i218_349 : ins 218 349 = some (.ifCond .ne 5, 0, 0, 0, 0) := by decide +kernel
theorem g218_349 : tg 349 (5) = 354 := by decide
theorem i218_352 : ins 218 352 = some (.iconst 0, 0, 0, 0, 0) := by decide +kernel
theorem i218_353 : ins 218 353 = some (.ireturn, 0, 0, 0, 0) := by decide +kernel
theorem i218_354 : ins 218 354 = some (.iload 9, 0, 0, 0, 0) := by decide +kernel
theorem i218_356 : ins 218 356 = some (.sipush (-1011), 0, 0, 0, 0) := by decide +kernel
theorem i218_359 : ins 218 359 = some (.if_icmp .gt 8, 0, 0, 0, 0) := by decide +kernel
theorem g218_359 : tg 359 (8) = 367 := by decide
theorem i218_362 : ins 218 362 = some (.iload 7, 0, 0, 0, 0) := by decide +kernel
theorem i218_364 : ins 218 364 = some (.goto 12, 0, 0, 0, 0) := by decide +kernel
theorem g218_364 : tg 364 (12) = 376 := by decide
theorem i218_367 : ins 218 367 = some (.bipush 8, 0, 0, 0, 0) := by decide +kernel
theorem i218_369 : ins 218 369 = some (.iload 7, 0, 0, 0, 0) := by decide +kernel
theorem i218_371 : ins 218 371 = some (.iconst 1, 0, 0, 0, 0) := by decide +kernel
theorem i218_372 : ins 218 372 = some (.iadd, 0, 0, 0, 0) := by decide +kernel
theorem i218_373 : ins 218 373 = some (.invokestatic 189, 146, 202, 1, 0) := by decide +kernel
theorem i218_376 : ins 218 376 = some (.istore 7, 0, 0, 0, 0) := by decide +kernel
theorem i218_378 : ins 218 378 = some (.iload 9, 0, 0, 0, 0) := by decide +kernel
theorem i218_380 : ins 218 380 = some (.sipush (-1011), 0, 0, 0, 0) := by decide +kernel
theorem i218_383 : ins 218 383 = some (.if_icmp .le 38, 0, 0, 0, 0) := by decide +kernel
theorem g218_383 : tg 383 (38) = 421 := by decide
theorem i218_386 : ins 218 386 = some (.aload 6, 0, 0, 0, 0) := by decide +kernel
theorem i218_388 : ins 218 388 = some (.iconst 4, 0, 0, 0, 0) := by decide +kernel
theorem i218_389 : ins 218 389 = some (.invokevirtual 23, 103, 119, 0, 0) := by decide +kernel
theorem i218_392 : ins 218 392 = some (.ifCond .ne 29, 0, 0, 0, 0) := by decide +kernel
theorem g218_392 : tg 392 (29) = 421 := by decide
theorem i218_395 : ins 218 395 = some (.iinc 7 (-1), 0, 0, 0, 0) := by decide +kernel
theorem i218_398 : ins 218 398 = some (.aload_n 1, 0, 0, 0, 0) := by decide +kernel
theorem i218_399 : ins 218 399 = some (.invokevirtual 193, 195, 82, 0, 0) := by decide +kernel
theorem i218_402 : ins 218 402 = some (.iload 7, 0, 0, 0, 0) := by decide +kernel
theorem i218_404 : ins 218 404 = some (.if_icmp .ne 15, 0, 0, 0, 0) := by decide +kernel
theorem g218_404 : tg 404 (15) = 419 := by decide
theorem i218_407 : ins 218 407 = some (.aload 8, 0, 0, 0, 0) := by decide +kernel
theorem i218_409 : ins 218 409 = some (.aload_n 1, 0, 0, 0, 0) := by decide +kernel
theorem i218_410 : ins 218 410 = some (.invokestatic 210, 200, 111, 1, 0) := by decide +kernel
theorem i218_413 : ins 218 413 = some (.invokevirtual 129, 130, 142, 0, 0) := by decide +kernel
theorem i218_416 : ins 218 416 = some (.ifCond .ne 5, 0, 0, 0, 0) := by decide +kernel
theorem g218_416 : tg 416 (5) = 421 := by decide
theorem i218_419 : ins 218 419 = some (.iconst 0, 0, 0, 0, 0) := by decide +kernel
theorem i218_420 : ins 218 420 = some (.ireturn, 0, 0, 0, 0) := by decide +kernel
theorem i218_421 : ins 218 421 = some (.aload_n 1, 0, 0, 0, 0) := by decide +kernel
theorem i218_422 : ins 218 422 = some (.bipush 13, 0, 0, 0, 0) := by decide +kernel
theorem i218_424 : ins 218 424 = some (.invokevirtual 40, 106, 80, 0, 0) := by decide +kernel
theorem i218_427 : ins 218 427 = some (.iload 7, 0, 0, 0, 0) := by decide +kernel
theorem i218_429 : ins 218 429 = some (.if_icmp .ne 26, 0, 0, 0, 0) := by decide +kernel
theorem g218_429 : tg 429 (26) = 455 := by decide
theorem i218_432 : ins 218 432 = some (.aload_n 1, 0, 0, 0, 0) := by decide +kernel
theorem i218_433 : ins 218 433 = some (.bipush 12, 0, 0, 0, 0) := by decide +kernel
theorem i218_435 : ins 218 435 = some (.invokevirtual 40, 106, 80, 0, 0) := by decide +kernel
theorem i218_438 : ins 218 438 = some (.ifCond .ne 17, 0, 0, 0, 0) := by decide +kernel
theorem g218_438 : tg 438 (17) = 455 := by decide
theorem i218_441 : ins 218 441 = some (.aload_n 1, 0, 0, 0, 0) := by decide +kernel
theorem i218_442 : ins 218 442 = some (.invokestatic 218, 202, 113, 1, 0) := by decide +kernel
theorem i218_445 : ins 218 445 = some (.ifCond .eq 10, 0, 0, 0, 0) := by decide +kernel
theorem g218_445 : tg 445 (10) = 455 := by decide
theorem i218_448 : ins 218 448 = some (.aload_n 1, 0, 0, 0, 0) := by decide +kernel
theorem i218_449 : ins 218 449 = some (.invokestatic 222, 203, 114, 1, 0) := by decide +kernel
theorem i218_452 : ins 218 452 = some (.ifCond .ne 5, 0, 0, 0, 0) := by decide +kernel
theorem g218_452 : tg 452 (5) = 457 := by decide
theorem i218_455 : ins 218 455 = some (.iconst 0, 0, 0, 0, 0) := by decide +kernel
theorem i218_456 : ins 218 456 = some (.ireturn, 0, 0, 0, 0) := by decide +kernel
theorem i218_457 : ins 218 457 = some (.iload 4, 0, 0, 0, 0) := by decide +kernel
theorem i218_459 : ins 218 459 = some (.iconst 3, 0, 0, 0, 0) := by decide +kernel
theorem i218_460 : ins 218 460 = some (.irem, 0, 0, 0, 0) := by decide +kernel
theorem i218_461 : ins 218 461 = some (.iconst 2, 0, 0, 0, 0) := by decide +kernel
theorem i218_462 : ins 218 462 = some (.if_icmp .ne 41, 0, 0, 0, 0) := by decide +kernel
theorem g218_462 : tg 462 (41) = 503 := by decide
theorem i218_465 : ins 218 465 = some (.aload_n 1, 0, 0, 0, 0) := by decide +kernel
theorem i218_466 : ins 218 466 = some (.invokestatic 210, 200, 111, 1, 0) := by decide +kernel
theorem i218_469 : ins 218 469 = some (.astore 8, 0, 0, 0, 0) := by decide +kernel
theorem i218_471 : ins 218 471 = some (.aload_n 1, 0, 0, 0, 0) := by decide +kernel
theorem i218_472 : ins 218 472 = some (.aload 6, 0, 0, 0, 0) := by decide +kernel
theorem i218_474 : ins 218 474 = some (.invokestatic 225, 204, 117, 1, 0) := by decide +kernel
theorem i218_477 : ins 218 477 = some (.ifCond .eq 24, 0, 0, 0, 0) := by decide +kernel
theorem g218_477 : tg 477 (24) = 501 := by decide
theorem i218_480 : ins 218 480 = some (.aload 8, 0, 0, 0, 0) := by decide +kernel
theorem i218_482 : ins 218 482 = some (.aload_n 1, 0, 0, 0, 0) := by decide +kernel
theorem i218_483 : ins 218 483 = some (.invokestatic 210, 200, 111, 1, 0) := by decide +kernel
theorem i218_486 : ins 218 486 = some (.invokevirtual 129, 130, 142, 0, 0) := by decide +kernel
theorem i218_489 : ins 218 489 = some (.ifCond .eq 12, 0, 0, 0, 0) := by decide +kernel
theorem g218_489 : tg 489 (12) = 501 := by decide
theorem i218_492 : ins 218 492 = some (.aload_n 1, 0, 0, 0, 0) := by decide +kernel
theorem i218_493 : ins 218 493 = some (.bipush 13, 0, 0, 0, 0) := by decide +kernel
theorem i218_495 : ins 218 495 = some (.invokevirtual 40, 106, 80, 0, 0) := by decide +kernel
theorem i218_498 : ins 218 498 = some (.ifCond .eq 5, 0, 0, 0, 0) := by decide +kernel
theorem g218_498 : tg 498 (5) = 503 := by decide
theorem i218_501 : ins 218 501 = some (.iconst 0, 0, 0, 0, 0) := by decide +kernel
theorem i218_502 : ins 218 502 = some (.ireturn, 0, 0, 0, 0) := by decide +kernel
theorem i218_503 : ins 218 503 = some (.iinc 4 1, 0, 0, 0, 0) := by decide +kernel
theorem i218_506 : ins 218 506 = some (.goto (-235), 0, 0, 0, 0) := by decide +kernel
theorem g218_506 : tg 506 (-235) = 271 := by decide
theorem i218_509 : ins 218 509 = some (.iload_n 3, 0, 0, 0, 0) := by decide +kernel
theorem i218_510 : ins 218 510 = some (.ifCond .le 7, 0, 0, 0, 0) := by decide +kernel
theorem g218_510 : tg 510 (7) = 517 := by decide
theorem i218_513 : ins 218 513 = some (.iconst 1, 0, 0, 0, 0) := by decide +kernel
theorem i218_514 : ins 218 514 = some (.goto 4, 0, 0, 0, 0) := by decide +kernel
theorem g218_514 : tg 514 (4) = 518 := by decide
theorem i218_517 : ins 218 517 = some (.iconst 0, 0, 0, 0, 0) := by decide +kernel
theorem i218_518 : ins 218 518 = some (.ireturn, 0, 0, 0, 0) := by decide +kernel
