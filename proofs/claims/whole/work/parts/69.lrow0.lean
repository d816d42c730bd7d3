/-! the law's rows -/
theorem zl_0 : decode code 0 = .ok (.new 7, 3) := by decide +kernel
theorem zl_3 : decode code 3 = .ok (.dup, 1) := by decide +kernel
theorem zl_4 : decode code 4 = .ok (.invokespecial 9, 3) := by decide +kernel
theorem zl_7 : decode code 7 = .ok (.astore_n 1, 1) := by decide +kernel
theorem zl_8 : decode code 8 = .ok (.new 10, 3) := by decide +kernel
theorem zl_11 : decode code 11 = .ok (.dup, 1) := by decide +kernel
theorem zl_12 : decode code 12 = .ok (.invokespecial 12, 3) := by decide +kernel
theorem zl_15 : decode code 15 = .ok (.astore_n 2, 1) := by decide +kernel
theorem zl_16 : decode code 16 = .ok (.iconst 0, 1) := by decide +kernel
theorem zl_17 : decode code 17 = .ok (.istore_n 3, 1) := by decide +kernel
theorem zl_18 : decode code 18 = .ok (.iload_n 3, 1) := by decide +kernel
theorem zl_19 : decode code 19 = .ok (.aload_n 0, 1) := by decide +kernel
theorem zl_20 : decode code 20 = .ok (.arraylength, 1) := by decide +kernel
theorem zl_21 : decode code 21 = .ok (.iconst 4, 1) := by decide +kernel
theorem zl_22 : decode code 22 = .ok (.isub, 1) := by decide +kernel
theorem zl_23 : decode code 23 = .ok (.if_icmp .gt (1046), 3) := by decide +kernel
theorem zl_26 : decode code 26 = .ok (.aload_n 0, 1) := by decide +kernel
theorem zl_27 : decode code 27 = .ok (.iload_n 3, 1) := by decide +kernel
theorem zl_28 : decode code 28 = .ok (.iaload, 1) := by decide +kernel
theorem zl_29 : decode code 29 = .ok (.bipush 63, 2) := by decide +kernel
theorem zl_31 : decode code 31 = .ok (.iand, 1) := by decide +kernel
theorem zl_32 : decode code 32 = .ok (.tableswitch 1031 0 32 #[148, 191, 224, 267, 310, 343, 376, 389, 412, 435, 478, 511, 534, 557, 590, 613, 636, 659, 682, 705, 728, 751, 764, 787, 800, 823, 872, 895, 908, 949, 992, 1005, 1018], 148) := by decide +kernel
theorem zl_180 : decode code 180 = .ok (.aload_n 1, 1) := by decide +kernel
theorem zl_181 : decode code 181 = .ok (.aload_n 0, 1) := by decide +kernel
theorem zl_182 : decode code 182 = .ok (.iload_n 3, 1) := by decide +kernel
theorem zl_183 : decode code 183 = .ok (.iconst 1, 1) := by decide +kernel
theorem zl_184 : decode code 184 = .ok (.iadd, 1) := by decide +kernel
theorem zl_185 : decode code 185 = .ok (.iaload, 1) := by decide +kernel
theorem zl_186 : decode code 186 = .ok (.aload_n 0, 1) := by decide +kernel
theorem zl_187 : decode code 187 = .ok (.iload_n 3, 1) := by decide +kernel
theorem zl_188 : decode code 188 = .ok (.iconst 2, 1) := by decide +kernel
theorem zl_189 : decode code 189 = .ok (.iadd, 1) := by decide +kernel
theorem zl_190 : decode code 190 = .ok (.iaload, 1) := by decide +kernel
theorem zl_191 : decode code 191 = .ok (.aload_n 0, 1) := by decide +kernel
theorem zl_192 : decode code 192 = .ok (.iload_n 3, 1) := by decide +kernel
theorem zl_193 : decode code 193 = .ok (.iconst 3, 1) := by decide +kernel
theorem zl_194 : decode code 194 = .ok (.iadd, 1) := by decide +kernel
theorem zl_195 : decode code 195 = .ok (.iaload, 1) := by decide +kernel
theorem zl_196 : decode code 196 = .ok (.invokevirtual 13, 3) := by decide +kernel
theorem zl_199 : decode code 199 = .ok (.aload_n 2, 1) := by decide +kernel
theorem zl_200 : decode code 200 = .ok (.aload_n 0, 1) := by decide +kernel
theorem zl_201 : decode code 201 = .ok (.iload_n 3, 1) := by decide +kernel
theorem zl_202 : decode code 202 = .ok (.iconst 1, 1) := by decide +kernel
theorem zl_203 : decode code 203 = .ok (.iadd, 1) := by decide +kernel
theorem zl_204 : decode code 204 = .ok (.iaload, 1) := by decide +kernel
theorem zl_205 : decode code 205 = .ok (.aload_n 0, 1) := by decide +kernel
theorem zl_206 : decode code 206 = .ok (.iload_n 3, 1) := by decide +kernel
theorem zl_207 : decode code 207 = .ok (.iconst 2, 1) := by decide +kernel
theorem zl_208 : decode code 208 = .ok (.iadd, 1) := by decide +kernel
theorem zl_209 : decode code 209 = .ok (.iaload, 1) := by decide +kernel
theorem zl_210 : decode code 210 = .ok (.aload_n 0, 1) := by decide +kernel
theorem zl_211 : decode code 211 = .ok (.iload_n 3, 1) := by decide +kernel
theorem zl_212 : decode code 212 = .ok (.iconst 3, 1) := by decide +kernel
theorem zl_213 : decode code 213 = .ok (.iadd, 1) := by decide +kernel
theorem zl_214 : decode code 214 = .ok (.iaload, 1) := by decide +kernel
theorem zl_215 : decode code 215 = .ok (.invokevirtual 17, 3) := by decide +kernel
theorem zl_218 : decode code 218 = .ok (.if_icmp .eq (845), 3) := by decide +kernel
theorem zl_221 : decode code 221 = .ok (.iconst 0, 1) := by decide +kernel
theorem zl_222 : decode code 222 = .ok (.ireturn, 1) := by decide +kernel
theorem zl_223 : decode code 223 = .ok (.aload_n 1, 1) := by decide +kernel
theorem zl_224 : decode code 224 = .ok (.aload_n 0, 1) := by decide +kernel
theorem zl_225 : decode code 225 = .ok (.iload_n 3, 1) := by decide +kernel
theorem zl_226 : decode code 226 = .ok (.iconst 1, 1) := by decide +kernel
theorem zl_227 : decode code 227 = .ok (.iadd, 1) := by decide +kernel
theorem zl_228 : decode code 228 = .ok (.iaload, 1) := by decide +kernel
theorem zl_229 : decode code 229 = .ok (.aload_n 0, 1) := by decide +kernel
theorem zl_230 : decode code 230 = .ok (.iload_n 3, 1) := by decide +kernel
theorem zl_231 : decode code 231 = .ok (.iconst 2, 1) := by decide +kernel
theorem zl_232 : decode code 232 = .ok (.iadd, 1) := by decide +kernel
theorem zl_233 : decode code 233 = .ok (.iaload, 1) := by decide +kernel
theorem zl_234 : decode code 234 = .ok (.invokevirtual 18, 3) := by decide +kernel
theorem zl_237 : decode code 237 = .ok (.aload_n 2, 1) := by decide +kernel
theorem zl_238 : decode code 238 = .ok (.aload_n 0, 1) := by decide +kernel
theorem zl_239 : decode code 239 = .ok (.iload_n 3, 1) := by decide +kernel
theorem zl_240 : decode code 240 = .ok (.iconst 1, 1) := by decide +kernel
theorem zl_241 : decode code 241 = .ok (.iadd, 1) := by decide +kernel
theorem zl_242 : decode code 242 = .ok (.iaload, 1) := by decide +kernel
theorem zl_243 : decode code 243 = .ok (.aload_n 0, 1) := by decide +kernel
theorem zl_244 : decode code 244 = .ok (.iload_n 3, 1) := by decide +kernel
theorem zl_245 : decode code 245 = .ok (.iconst 2, 1) := by decide +kernel
theorem zl_246 : decode code 246 = .ok (.iadd, 1) := by decide +kernel
theorem zl_247 : decode code 247 = .ok (.iaload, 1) := by decide +kernel
theorem zl_248 : decode code 248 = .ok (.invokevirtual 22, 3) := by decide +kernel
theorem zl_251 : decode code 251 = .ok (.if_icmp .eq (812), 3) := by decide +kernel
theorem zl_254 : decode code 254 = .ok (.iconst 0, 1) := by decide +kernel
theorem zl_255 : decode code 255 = .ok (.ireturn, 1) := by decide +kernel
theorem zl_256 : decode code 256 = .ok (.aload_n 1, 1) := by decide +kernel
theorem zl_257 : decode code 257 = .ok (.aload_n 0, 1) := by decide +kernel
theorem zl_258 : decode code 258 = .ok (.iload_n 3, 1) := by decide +kernel
theorem zl_259 : decode code 259 = .ok (.iconst 1, 1) := by decide +kernel
theorem zl_260 : decode code 260 = .ok (.iadd, 1) := by decide +kernel
theorem zl_261 : decode code 261 = .ok (.iaload, 1) := by decide +kernel
theorem zl_262 : decode code 262 = .ok (.aload_n 0, 1) := by decide +kernel
theorem zl_263 : decode code 263 = .ok (.iload_n 3, 1) := by decide +kernel
theorem zl_264 : decode code 264 = .ok (.iconst 2, 1) := by decide +kernel
theorem zl_265 : decode code 265 = .ok (.iadd, 1) := by decide +kernel
theorem zl_266 : decode code 266 = .ok (.iaload, 1) := by decide +kernel
theorem zl_267 : decode code 267 = .ok (.aload_n 0, 1) := by decide +kernel
theorem zl_268 : decode code 268 = .ok (.iload_n 3, 1) := by decide +kernel
theorem zl_269 : decode code 269 = .ok (.iconst 3, 1) := by decide +kernel
theorem zl_270 : decode code 270 = .ok (.iadd, 1) := by decide +kernel
theorem zl_271 : decode code 271 = .ok (.iaload, 1) := by decide +kernel
theorem zl_272 : decode code 272 = .ok (.invokevirtual 23, 3) := by decide +kernel
theorem zl_275 : decode code 275 = .ok (.aload_n 2, 1) := by decide +kernel
theorem zl_276 : decode code 276 = .ok (.aload_n 0, 1) := by decide +kernel
theorem zl_277 : decode code 277 = .ok (.iload_n 3, 1) := by decide +kernel
theorem zl_278 : decode code 278 = .ok (.iconst 1, 1) := by decide +kernel
theorem zl_279 : decode code 279 = .ok (.iadd, 1) := by decide +kernel
theorem zl_280 : decode code 280 = .ok (.iaload, 1) := by decide +kernel
theorem zl_281 : decode code 281 = .ok (.aload_n 0, 1) := by decide +kernel
theorem zl_282 : decode code 282 = .ok (.iload_n 3, 1) := by decide +kernel
theorem zl_283 : decode code 283 = .ok (.iconst 2, 1) := by decide +kernel
theorem zl_284 : decode code 284 = .ok (.iadd, 1) := by decide +kernel
theorem zl_285 : decode code 285 = .ok (.iaload, 1) := by decide +kernel
theorem zl_286 : decode code 286 = .ok (.aload_n 0, 1) := by decide +kernel
theorem zl_287 : decode code 287 = .ok (.iload_n 3, 1) := by decide +kernel
theorem zl_288 : decode code 288 = .ok (.iconst 3, 1) := by decide +kernel
theorem zl_289 : decode code 289 = .ok (.iadd, 1) := by decide +kernel
theorem zl_290 : decode code 290 = .ok (.iaload, 1) := by decide +kernel
theorem zl_291 : decode code 291 = .ok (.invokevirtual 26, 3) := by decide +kernel
theorem zl_294 : decode code 294 = .ok (.if_icmp .eq (769), 3) := by decide +kernel
theorem zl_297 : decode code 297 = .ok (.iconst 0, 1) := by decide +kernel
theorem zl_298 : decode code 298 = .ok (.ireturn, 1) := by decide +kernel
theorem zl_299 : decode code 299 = .ok (.aload_n 1, 1) := by decide +kernel
theorem zl_300 : decode code 300 = .ok (.aload_n 0, 1) := by decide +kernel
theorem zl_301 : decode code 301 = .ok (.iload_n 3, 1) := by decide +kernel
theorem zl_302 : decode code 302 = .ok (.iconst 1, 1) := by decide +kernel
theorem zl_303 : decode code 303 = .ok (.iadd, 1) := by decide +kernel
theorem zl_304 : decode code 304 = .ok (.iaload, 1) := by decide +kernel
theorem zl_305 : decode code 305 = .ok (.aload_n 0, 1) := by decide +kernel
theorem zl_306 : decode code 306 = .ok (.iload_n 3, 1) := by decide +kernel
theorem zl_307 : decode code 307 = .ok (.iconst 2, 1) := by decide +kernel
theorem zl_308 : decode code 308 = .ok (.iadd, 1) := by decide +kernel
theorem zl_309 : decode code 309 = .ok (.iaload, 1) := by decide +kernel
theorem zl_310 : decode code 310 = .ok (.aload_n 0, 1) := by decide +kernel
theorem zl_311 : decode code 311 = .ok (.iload_n 3, 1) := by decide +kernel
theorem zl_312 : decode code 312 = .ok (.iconst 3, 1) := by decide +kernel
theorem zl_313 : decode code 313 = .ok (.iadd, 1) := by decide +kernel
theorem zl_314 : decode code 314 = .ok (.iaload, 1) := by decide +kernel
theorem zl_315 : decode code 315 = .ok (.invokevirtual 27, 3) := by decide +kernel
theorem zl_318 : decode code 318 = .ok (.aload_n 2, 1) := by decide +kernel
theorem zl_319 : decode code 319 = .ok (.aload_n 0, 1) := by decide +kernel
theorem zl_320 : decode code 320 = .ok (.iload_n 3, 1) := by decide +kernel
theorem zl_321 : decode code 321 = .ok (.iconst 1, 1) := by decide +kernel
theorem zl_322 : decode code 322 = .ok (.iadd, 1) := by decide +kernel
theorem zl_323 : decode code 323 = .ok (.iaload, 1) := by decide +kernel
theorem zl_324 : decode code 324 = .ok (.aload_n 0, 1) := by decide +kernel
theorem zl_325 : decode code 325 = .ok (.iload_n 3, 1) := by decide +kernel
theorem zl_326 : decode code 326 = .ok (.iconst 2, 1) := by decide +kernel
theorem zl_327 : decode code 327 = .ok (.iadd, 1) := by decide +kernel
theorem zl_328 : decode code 328 = .ok (.iaload, 1) := by decide +kernel
theorem zl_329 : decode code 329 = .ok (.aload_n 0, 1) := by decide +kernel
theorem zl_330 : decode code 330 = .ok (.iload_n 3, 1) := by decide +kernel
theorem zl_331 : decode code 331 = .ok (.iconst 3, 1) := by decide +kernel
theorem zl_332 : decode code 332 = .ok (.iadd, 1) := by decide +kernel
theorem zl_333 : decode code 333 = .ok (.iaload, 1) := by decide +kernel
theorem zl_334 : decode code 334 = .ok (.invokevirtual 30, 3) := by decide +kernel
theorem zl_337 : decode code 337 = .ok (.if_icmp .eq (726), 3) := by decide +kernel
theorem zl_340 : decode code 340 = .ok (.iconst 0, 1) := by decide +kernel
theorem zl_341 : decode code 341 = .ok (.ireturn, 1) := by decide +kernel
theorem zl_342 : decode code 342 = .ok (.aload_n 1, 1) := by decide +kernel
theorem zl_343 : decode code 343 = .ok (.aload_n 0, 1) := by decide +kernel
theorem zl_344 : decode code 344 = .ok (.iload_n 3, 1) := by decide +kernel
theorem zl_345 : decode code 345 = .ok (.iconst 1, 1) := by decide +kernel
theorem zl_346 : decode code 346 = .ok (.iadd, 1) := by decide +kernel
theorem zl_347 : decode code 347 = .ok (.iaload, 1) := by decide +kernel
theorem zl_348 : decode code 348 = .ok (.aload_n 0, 1) := by decide +kernel
theorem zl_349 : decode code 349 = .ok (.iload_n 3, 1) := by decide +kernel
theorem zl_350 : decode code 350 = .ok (.iconst 2, 1) := by decide +kernel
theorem zl_351 : decode code 351 = .ok (.iadd, 1) := by decide +kernel
theorem zl_352 : decode code 352 = .ok (.iaload, 1) := by decide +kernel
theorem zl_353 : decode code 353 = .ok (.invokevirtual 31, 3) := by decide +kernel
theorem zl_356 : decode code 356 = .ok (.aload_n 2, 1) := by decide +kernel
theorem zl_357 : decode code 357 = .ok (.aload_n 0, 1) := by decide +kernel
theorem zl_358 : decode code 358 = .ok (.iload_n 3, 1) := by decide +kernel
theorem zl_359 : decode code 359 = .ok (.iconst 1, 1) := by decide +kernel
theorem zl_360 : decode code 360 = .ok (.iadd, 1) := by decide +kernel
theorem zl_361 : decode code 361 = .ok (.iaload, 1) := by decide +kernel
theorem zl_362 : decode code 362 = .ok (.aload_n 0, 1) := by decide +kernel
theorem zl_363 : decode code 363 = .ok (.iload_n 3, 1) := by decide +kernel
theorem zl_364 : decode code 364 = .ok (.iconst 2, 1) := by decide +kernel
theorem zl_365 : decode code 365 = .ok (.iadd, 1) := by decide +kernel
theorem zl_366 : decode code 366 = .ok (.iaload, 1) := by decide +kernel
theorem zl_367 : decode code 367 = .ok (.invokevirtual 34, 3) := by decide +kernel
theorem zl_370 : decode code 370 = .ok (.if_icmp .eq (693), 3) := by decide +kernel
theorem zl_373 : decode code 373 = .ok (.iconst 0, 1) := by decide +kernel
theorem zl_374 : decode code 374 = .ok (.ireturn, 1) := by decide +kernel
theorem zl_375 : decode code 375 = .ok (.aload_n 1, 1) := by decide +kernel
theorem zl_376 : decode code 376 = .ok (.aload_n 0, 1) := by decide +kernel
theorem zl_377 : decode code 377 = .ok (.iload_n 3, 1) := by decide +kernel
theorem zl_378 : decode code 378 = .ok (.iconst 1, 1) := by decide +kernel
theorem zl_379 : decode code 379 = .ok (.iadd, 1) := by decide +kernel
theorem zl_380 : decode code 380 = .ok (.iaload, 1) := by decide +kernel
theorem zl_381 : decode code 381 = .ok (.aload_n 0, 1) := by decide +kernel
theorem zl_382 : decode code 382 = .ok (.iload_n 3, 1) := by decide +kernel
theorem zl_383 : decode code 383 = .ok (.iconst 2, 1) := by decide +kernel
theorem zl_384 : decode code 384 = .ok (.iadd, 1) := by decide +kernel
theorem zl_385 : decode code 385 = .ok (.iaload, 1) := by decide +kernel
theorem zl_386 : decode code 386 = .ok (.invokevirtual 35, 3) := by decide +kernel
theorem zl_389 : decode code 389 = .ok (.aload_n 2, 1) := by decide +kernel
theorem zl_390 : decode code 390 = .ok (.aload_n 0, 1) := by decide +kernel
theorem zl_391 : decode code 391 = .ok (.iload_n 3, 1) := by decide +kernel
theorem zl_392 : decode code 392 = .ok (.iconst 1, 1) := by decide +kernel
theorem zl_393 : decode code 393 = .ok (.iadd, 1) := by decide +kernel
theorem zl_394 : decode code 394 = .ok (.iaload, 1) := by decide +kernel
theorem zl_395 : decode code 395 = .ok (.aload_n 0, 1) := by decide +kernel
theorem zl_396 : decode code 396 = .ok (.iload_n 3, 1) := by decide +kernel
theorem zl_397 : decode code 397 = .ok (.iconst 2, 1) := by decide +kernel
theorem zl_398 : decode code 398 = .ok (.iadd, 1) := by decide +kernel
theorem zl_399 : decode code 399 = .ok (.iaload, 1) := by decide +kernel
theorem zl_400 : decode code 400 = .ok (.invokevirtual 38, 3) := by decide +kernel
theorem zl_403 : decode code 403 = .ok (.if_icmp .eq (660), 3) := by decide +kernel
theorem zl_406 : decode code 406 = .ok (.iconst 0, 1) := by decide +kernel
theorem zl_407 : decode code 407 = .ok (.ireturn, 1) := by decide +kernel
theorem zl_408 : decode code 408 = .ok (.aload_n 1, 1) := by decide +kernel
theorem zl_409 : decode code 409 = .ok (.invokevirtual 39, 3) := by decide +kernel
theorem zl_412 : decode code 412 = .ok (.aload_n 2, 1) := by decide +kernel
theorem zl_413 : decode code 413 = .ok (.invokevirtual 43, 3) := by decide +kernel
theorem zl_416 : decode code 416 = .ok (.if_icmp .eq (647), 3) := by decide +kernel
theorem zl_419 : decode code 419 = .ok (.iconst 0, 1) := by decide +kernel
theorem zl_420 : decode code 420 = .ok (.ireturn, 1) := by decide +kernel
theorem zl_421 : decode code 421 = .ok (.aload_n 1, 1) := by decide +kernel
theorem zl_422 : decode code 422 = .ok (.aload_n 0, 1) := by decide +kernel
theorem zl_423 : decode code 423 = .ok (.iload_n 3, 1) := by decide +kernel
theorem zl_424 : decode code 424 = .ok (.iconst 1, 1) := by decide +kernel
