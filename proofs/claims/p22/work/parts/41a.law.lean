/-! THE LAW'S CALLS. -/
theorem dL_law_0 : decode cL_law 0 = .ok (.new 7, 3) := by decide +kernel
theorem dL_law_3 : decode cL_law 3 = .ok (.dup, 1) := by decide +kernel
theorem dL_law_4 : decode cL_law 4 = .ok (.invokespecial 9, 3) := by decide +kernel
theorem dL_law_7 : decode cL_law 7 = .ok (.astore_n 1, 1) := by decide +kernel
theorem dL_law_8 : decode cL_law 8 = .ok (.new 10, 3) := by decide +kernel
theorem dL_law_11 : decode cL_law 11 = .ok (.dup, 1) := by decide +kernel
theorem dL_law_12 : decode cL_law 12 = .ok (.invokespecial 12, 3) := by decide +kernel
theorem dL_law_15 : decode cL_law 15 = .ok (.astore_n 2, 1) := by decide +kernel
theorem dL_law_16 : decode cL_law 16 = .ok (.iconst 0, 1) := by decide +kernel
theorem dL_law_17 : decode cL_law 17 = .ok (.istore_n 3, 1) := by decide +kernel
theorem dL_law_18 : decode cL_law 18 = .ok (.iload_n 3, 1) := by decide +kernel
theorem dL_law_19 : decode cL_law 19 = .ok (.aload_n 0, 1) := by decide +kernel
theorem dL_law_20 : decode cL_law 20 = .ok (.arraylength, 1) := by decide +kernel
theorem dL_law_21 : decode cL_law 21 = .ok (.iconst 5, 1) := by decide +kernel
theorem dL_law_22 : decode cL_law 22 = .ok (.isub, 1) := by decide +kernel
theorem dL_law_23 : decode cL_law 23 = .ok (.if_icmp .gt 1335, 3) := by decide +kernel
theorem dL_law_26 : decode cL_law 26 = .ok (.aload_n 0, 1) := by decide +kernel
theorem dL_law_27 : decode cL_law 27 = .ok (.iload_n 3, 1) := by decide +kernel
theorem dL_law_28 : decode cL_law 28 = .ok (.iaload, 1) := by decide +kernel
theorem dL_law_29 : decode cL_law 29 = .ok (.bipush 63, 2) := by decide +kernel
theorem dL_law_31 : decode cL_law 31 = .ok (.iand, 1) := by decide +kernel
theorem dL_law_32 : decode cL_law 32 = .ok (.tableswitch 1320 0 37 #[168, 221, 244, 257, 270, 293, 326, 359, 382, 431, 464, 477, 520, 563, 596, 619, 632, 655, 688, 711, 724, 747, 780, 803, 872, 895, 944, 977, 990, 1023, 1076, 1099, 1122, 1145, 1188, 1231, 1284, 1297], 168) := by decide +kernel
theorem dL_law_200 : decode cL_law 200 = .ok (.aload_n 1, 1) := by decide +kernel
theorem dL_law_201 : decode cL_law 201 = .ok (.aload_n 0, 1) := by decide +kernel
theorem dL_law_202 : decode cL_law 202 = .ok (.iload_n 3, 1) := by decide +kernel
theorem dL_law_203 : decode cL_law 203 = .ok (.iconst 1, 1) := by decide +kernel
theorem dL_law_204 : decode cL_law 204 = .ok (.iadd, 1) := by decide +kernel
theorem dL_law_205 : decode cL_law 205 = .ok (.iaload, 1) := by decide +kernel
theorem dL_law_206 : decode cL_law 206 = .ok (.i2l, 1) := by decide +kernel
theorem dL_law_207 : decode cL_law 207 = .ok (.bipush 32, 2) := by decide +kernel
theorem dL_law_209 : decode cL_law 209 = .ok (.lshl, 1) := by decide +kernel
theorem dL_law_210 : decode cL_law 210 = .ok (.aload_n 0, 1) := by decide +kernel
theorem dL_law_211 : decode cL_law 211 = .ok (.iload_n 3, 1) := by decide +kernel
theorem dL_law_212 : decode cL_law 212 = .ok (.iconst 2, 1) := by decide +kernel
theorem dL_law_213 : decode cL_law 213 = .ok (.iadd, 1) := by decide +kernel
theorem dL_law_214 : decode cL_law 214 = .ok (.iaload, 1) := by decide +kernel
theorem dL_law_215 : decode cL_law 215 = .ok (.i2l, 1) := by decide +kernel
theorem dL_law_216 : decode cL_law 216 = .ok (.ldc2_w 13, 3) := by decide +kernel
theorem dL_law_219 : decode cL_law 219 = .ok (.land, 1) := by decide +kernel
theorem dL_law_220 : decode cL_law 220 = .ok (.lor, 1) := by decide +kernel
theorem dL_law_221 : decode cL_law 221 = .ok (.invokevirtual 15, 3) := by decide +kernel
theorem dL_law_224 : decode cL_law 224 = .ok (.pop, 1) := by decide +kernel
theorem dL_law_225 : decode cL_law 225 = .ok (.aload_n 2, 1) := by decide +kernel
theorem dL_law_226 : decode cL_law 226 = .ok (.aload_n 0, 1) := by decide +kernel
theorem dL_law_227 : decode cL_law 227 = .ok (.iload_n 3, 1) := by decide +kernel
theorem dL_law_228 : decode cL_law 228 = .ok (.iconst 1, 1) := by decide +kernel
theorem dL_law_229 : decode cL_law 229 = .ok (.iadd, 1) := by decide +kernel
theorem dL_law_230 : decode cL_law 230 = .ok (.iaload, 1) := by decide +kernel
theorem dL_law_231 : decode cL_law 231 = .ok (.i2l, 1) := by decide +kernel
theorem dL_law_232 : decode cL_law 232 = .ok (.bipush 32, 2) := by decide +kernel
theorem dL_law_234 : decode cL_law 234 = .ok (.lshl, 1) := by decide +kernel
theorem dL_law_235 : decode cL_law 235 = .ok (.aload_n 0, 1) := by decide +kernel
theorem dL_law_236 : decode cL_law 236 = .ok (.iload_n 3, 1) := by decide +kernel
theorem dL_law_237 : decode cL_law 237 = .ok (.iconst 2, 1) := by decide +kernel
theorem dL_law_238 : decode cL_law 238 = .ok (.iadd, 1) := by decide +kernel
theorem dL_law_239 : decode cL_law 239 = .ok (.iaload, 1) := by decide +kernel
theorem dL_law_240 : decode cL_law 240 = .ok (.i2l, 1) := by decide +kernel
theorem dL_law_241 : decode cL_law 241 = .ok (.ldc2_w 13, 3) := by decide +kernel
theorem dL_law_244 : decode cL_law 244 = .ok (.land, 1) := by decide +kernel
theorem dL_law_245 : decode cL_law 245 = .ok (.lor, 1) := by decide +kernel
theorem dL_law_246 : decode cL_law 246 = .ok (.invokevirtual 19, 3) := by decide +kernel
theorem dL_law_249 : decode cL_law 249 = .ok (.pop, 1) := by decide +kernel
theorem dL_law_250 : decode cL_law 250 = .ok (.goto 1102, 3) := by decide +kernel
theorem dL_law_253 : decode cL_law 253 = .ok (.aload_n 1, 1) := by decide +kernel
theorem dL_law_254 : decode cL_law 254 = .ok (.aload_n 0, 1) := by decide +kernel
theorem dL_law_255 : decode cL_law 255 = .ok (.iload_n 3, 1) := by decide +kernel
theorem dL_law_256 : decode cL_law 256 = .ok (.iconst 1, 1) := by decide +kernel
theorem dL_law_257 : decode cL_law 257 = .ok (.iadd, 1) := by decide +kernel
theorem dL_law_258 : decode cL_law 258 = .ok (.iaload, 1) := by decide +kernel
theorem dL_law_259 : decode cL_law 259 = .ok (.invokevirtual 20, 3) := by decide +kernel
theorem dL_law_262 : decode cL_law 262 = .ok (.pop, 1) := by decide +kernel
theorem dL_law_263 : decode cL_law 263 = .ok (.aload_n 2, 1) := by decide +kernel
theorem dL_law_264 : decode cL_law 264 = .ok (.aload_n 0, 1) := by decide +kernel
theorem dL_law_265 : decode cL_law 265 = .ok (.iload_n 3, 1) := by decide +kernel
theorem dL_law_266 : decode cL_law 266 = .ok (.iconst 1, 1) := by decide +kernel
theorem dL_law_267 : decode cL_law 267 = .ok (.iadd, 1) := by decide +kernel
theorem dL_law_268 : decode cL_law 268 = .ok (.iaload, 1) := by decide +kernel
theorem dL_law_269 : decode cL_law 269 = .ok (.invokevirtual 24, 3) := by decide +kernel
theorem dL_law_272 : decode cL_law 272 = .ok (.pop, 1) := by decide +kernel
theorem dL_law_273 : decode cL_law 273 = .ok (.goto 1079, 3) := by decide +kernel
theorem dL_law_276 : decode cL_law 276 = .ok (.aload_n 1, 1) := by decide +kernel
theorem dL_law_277 : decode cL_law 277 = .ok (.invokevirtual 25, 3) := by decide +kernel
theorem dL_law_280 : decode cL_law 280 = .ok (.pop, 1) := by decide +kernel
theorem dL_law_281 : decode cL_law 281 = .ok (.aload_n 2, 1) := by decide +kernel
theorem dL_law_282 : decode cL_law 282 = .ok (.invokevirtual 29, 3) := by decide +kernel
theorem dL_law_285 : decode cL_law 285 = .ok (.pop, 1) := by decide +kernel
theorem dL_law_286 : decode cL_law 286 = .ok (.goto 1066, 3) := by decide +kernel
theorem dL_law_289 : decode cL_law 289 = .ok (.aload_n 1, 1) := by decide +kernel
theorem dL_law_290 : decode cL_law 290 = .ok (.invokevirtual 30, 3) := by decide +kernel
theorem dL_law_293 : decode cL_law 293 = .ok (.pop, 1) := by decide +kernel
theorem dL_law_294 : decode cL_law 294 = .ok (.aload_n 2, 1) := by decide +kernel
theorem dL_law_295 : decode cL_law 295 = .ok (.invokevirtual 33, 3) := by decide +kernel
theorem dL_law_298 : decode cL_law 298 = .ok (.pop, 1) := by decide +kernel
theorem dL_law_299 : decode cL_law 299 = .ok (.goto 1053, 3) := by decide +kernel
theorem dL_law_302 : decode cL_law 302 = .ok (.aload_n 1, 1) := by decide +kernel
theorem dL_law_303 : decode cL_law 303 = .ok (.aload_n 0, 1) := by decide +kernel
theorem dL_law_304 : decode cL_law 304 = .ok (.iload_n 3, 1) := by decide +kernel
theorem dL_law_305 : decode cL_law 305 = .ok (.iconst 1, 1) := by decide +kernel
theorem dL_law_306 : decode cL_law 306 = .ok (.iadd, 1) := by decide +kernel
theorem dL_law_307 : decode cL_law 307 = .ok (.iaload, 1) := by decide +kernel
theorem dL_law_308 : decode cL_law 308 = .ok (.invokevirtual 34, 3) := by decide +kernel
theorem dL_law_311 : decode cL_law 311 = .ok (.pop, 1) := by decide +kernel
theorem dL_law_312 : decode cL_law 312 = .ok (.aload_n 2, 1) := by decide +kernel
theorem dL_law_313 : decode cL_law 313 = .ok (.aload_n 0, 1) := by decide +kernel
theorem dL_law_314 : decode cL_law 314 = .ok (.iload_n 3, 1) := by decide +kernel
theorem dL_law_315 : decode cL_law 315 = .ok (.iconst 1, 1) := by decide +kernel
theorem dL_law_316 : decode cL_law 316 = .ok (.iadd, 1) := by decide +kernel
theorem dL_law_317 : decode cL_law 317 = .ok (.iaload, 1) := by decide +kernel
theorem dL_law_318 : decode cL_law 318 = .ok (.invokevirtual 37, 3) := by decide +kernel
theorem dL_law_321 : decode cL_law 321 = .ok (.pop, 1) := by decide +kernel
theorem dL_law_322 : decode cL_law 322 = .ok (.goto 1030, 3) := by decide +kernel
theorem dL_law_325 : decode cL_law 325 = .ok (.aload_n 1, 1) := by decide +kernel
theorem dL_law_326 : decode cL_law 326 = .ok (.aload_n 0, 1) := by decide +kernel
theorem dL_law_327 : decode cL_law 327 = .ok (.iload_n 3, 1) := by decide +kernel
theorem dL_law_328 : decode cL_law 328 = .ok (.iconst 1, 1) := by decide +kernel
theorem dL_law_329 : decode cL_law 329 = .ok (.iadd, 1) := by decide +kernel
theorem dL_law_330 : decode cL_law 330 = .ok (.iaload, 1) := by decide +kernel
theorem dL_law_331 : decode cL_law 331 = .ok (.aload_n 0, 1) := by decide +kernel
theorem dL_law_332 : decode cL_law 332 = .ok (.iload_n 3, 1) := by decide +kernel
theorem dL_law_333 : decode cL_law 333 = .ok (.iconst 2, 1) := by decide +kernel
theorem dL_law_334 : decode cL_law 334 = .ok (.iadd, 1) := by decide +kernel
theorem dL_law_335 : decode cL_law 335 = .ok (.iaload, 1) := by decide +kernel
theorem dL_law_336 : decode cL_law 336 = .ok (.invokevirtual 38, 3) := by decide +kernel
theorem dL_law_339 : decode cL_law 339 = .ok (.pop, 1) := by decide +kernel
theorem dL_law_340 : decode cL_law 340 = .ok (.aload_n 2, 1) := by decide +kernel
theorem dL_law_341 : decode cL_law 341 = .ok (.aload_n 0, 1) := by decide +kernel
theorem dL_law_342 : decode cL_law 342 = .ok (.iload_n 3, 1) := by decide +kernel
theorem dL_law_343 : decode cL_law 343 = .ok (.iconst 1, 1) := by decide +kernel
theorem dL_law_344 : decode cL_law 344 = .ok (.iadd, 1) := by decide +kernel
theorem dL_law_345 : decode cL_law 345 = .ok (.iaload, 1) := by decide +kernel
theorem dL_law_346 : decode cL_law 346 = .ok (.aload_n 0, 1) := by decide +kernel
theorem dL_law_347 : decode cL_law 347 = .ok (.iload_n 3, 1) := by decide +kernel
theorem dL_law_348 : decode cL_law 348 = .ok (.iconst 2, 1) := by decide +kernel
theorem dL_law_349 : decode cL_law 349 = .ok (.iadd, 1) := by decide +kernel
theorem dL_law_350 : decode cL_law 350 = .ok (.iaload, 1) := by decide +kernel
theorem dL_law_351 : decode cL_law 351 = .ok (.invokevirtual 42, 3) := by decide +kernel
theorem dL_law_354 : decode cL_law 354 = .ok (.pop, 1) := by decide +kernel
theorem dL_law_355 : decode cL_law 355 = .ok (.goto 997, 3) := by decide +kernel
theorem dL_law_358 : decode cL_law 358 = .ok (.aload_n 1, 1) := by decide +kernel
theorem dL_law_359 : decode cL_law 359 = .ok (.aload_n 0, 1) := by decide +kernel
theorem dL_law_360 : decode cL_law 360 = .ok (.iload_n 3, 1) := by decide +kernel
theorem dL_law_361 : decode cL_law 361 = .ok (.iconst 1, 1) := by decide +kernel
theorem dL_law_362 : decode cL_law 362 = .ok (.iadd, 1) := by decide +kernel
theorem dL_law_363 : decode cL_law 363 = .ok (.iaload, 1) := by decide +kernel
theorem dL_law_364 : decode cL_law 364 = .ok (.aload_n 0, 1) := by decide +kernel
theorem dL_law_365 : decode cL_law 365 = .ok (.iload_n 3, 1) := by decide +kernel
theorem dL_law_366 : decode cL_law 366 = .ok (.iconst 2, 1) := by decide +kernel
theorem dL_law_367 : decode cL_law 367 = .ok (.iadd, 1) := by decide +kernel
theorem dL_law_368 : decode cL_law 368 = .ok (.iaload, 1) := by decide +kernel
theorem dL_law_369 : decode cL_law 369 = .ok (.invokevirtual 43, 3) := by decide +kernel
theorem dL_law_372 : decode cL_law 372 = .ok (.pop, 1) := by decide +kernel
theorem dL_law_373 : decode cL_law 373 = .ok (.aload_n 2, 1) := by decide +kernel
theorem dL_law_374 : decode cL_law 374 = .ok (.aload_n 0, 1) := by decide +kernel
theorem dL_law_375 : decode cL_law 375 = .ok (.iload_n 3, 1) := by decide +kernel
theorem dL_law_376 : decode cL_law 376 = .ok (.iconst 1, 1) := by decide +kernel
theorem dL_law_377 : decode cL_law 377 = .ok (.iadd, 1) := by decide +kernel
theorem dL_law_378 : decode cL_law 378 = .ok (.iaload, 1) := by decide +kernel
theorem dL_law_379 : decode cL_law 379 = .ok (.aload_n 0, 1) := by decide +kernel
theorem dL_law_380 : decode cL_law 380 = .ok (.iload_n 3, 1) := by decide +kernel
theorem dL_law_381 : decode cL_law 381 = .ok (.iconst 2, 1) := by decide +kernel
theorem dL_law_382 : decode cL_law 382 = .ok (.iadd, 1) := by decide +kernel
theorem dL_law_383 : decode cL_law 383 = .ok (.iaload, 1) := by decide +kernel
theorem dL_law_384 : decode cL_law 384 = .ok (.invokevirtual 46, 3) := by decide +kernel
theorem dL_law_387 : decode cL_law 387 = .ok (.pop, 1) := by decide +kernel
theorem dL_law_388 : decode cL_law 388 = .ok (.goto 964, 3) := by decide +kernel
theorem dL_law_391 : decode cL_law 391 = .ok (.aload_n 1, 1) := by decide +kernel
theorem dL_law_392 : decode cL_law 392 = .ok (.aload_n 0, 1) := by decide +kernel
theorem dL_law_393 : decode cL_law 393 = .ok (.iload_n 3, 1) := by decide +kernel
theorem dL_law_394 : decode cL_law 394 = .ok (.iconst 1, 1) := by decide +kernel
theorem dL_law_395 : decode cL_law 395 = .ok (.iadd, 1) := by decide +kernel
theorem dL_law_396 : decode cL_law 396 = .ok (.iaload, 1) := by decide +kernel
theorem dL_law_397 : decode cL_law 397 = .ok (.invokevirtual 47, 3) := by decide +kernel
theorem dL_law_400 : decode cL_law 400 = .ok (.pop, 1) := by decide +kernel
theorem dL_law_401 : decode cL_law 401 = .ok (.aload_n 2, 1) := by decide +kernel
theorem dL_law_402 : decode cL_law 402 = .ok (.aload_n 0, 1) := by decide +kernel
theorem dL_law_403 : decode cL_law 403 = .ok (.iload_n 3, 1) := by decide +kernel
theorem dL_law_404 : decode cL_law 404 = .ok (.iconst 1, 1) := by decide +kernel
theorem dL_law_405 : decode cL_law 405 = .ok (.iadd, 1) := by decide +kernel
theorem dL_law_406 : decode cL_law 406 = .ok (.iaload, 1) := by decide +kernel
theorem dL_law_407 : decode cL_law 407 = .ok (.invokevirtual 50, 3) := by decide +kernel
theorem dL_law_410 : decode cL_law 410 = .ok (.pop, 1) := by decide +kernel
theorem dL_law_411 : decode cL_law 411 = .ok (.goto 941, 3) := by decide +kernel
theorem dL_law_414 : decode cL_law 414 = .ok (.aload_n 1, 1) := by decide +kernel
theorem dL_law_415 : decode cL_law 415 = .ok (.aload_n 0, 1) := by decide +kernel
theorem dL_law_416 : decode cL_law 416 = .ok (.iload_n 3, 1) := by decide +kernel
theorem dL_law_417 : decode cL_law 417 = .ok (.iconst 1, 1) := by decide +kernel
theorem dL_law_418 : decode cL_law 418 = .ok (.iadd, 1) := by decide +kernel
theorem dL_law_419 : decode cL_law 419 = .ok (.iaload, 1) := by decide +kernel
theorem dL_law_420 : decode cL_law 420 = .ok (.aload_n 0, 1) := by decide +kernel
theorem dL_law_421 : decode cL_law 421 = .ok (.iload_n 3, 1) := by decide +kernel
theorem dL_law_422 : decode cL_law 422 = .ok (.iconst 2, 1) := by decide +kernel
theorem dL_law_423 : decode cL_law 423 = .ok (.iadd, 1) := by decide +kernel
theorem dL_law_424 : decode cL_law 424 = .ok (.iaload, 1) := by decide +kernel
theorem dL_law_425 : decode cL_law 425 = .ok (.ifCond .eq 7, 3) := by decide +kernel
theorem dL_law_428 : decode cL_law 428 = .ok (.iconst 1, 1) := by decide +kernel
theorem dL_law_429 : decode cL_law 429 = .ok (.goto 4, 3) := by decide +kernel
theorem dL_law_432 : decode cL_law 432 = .ok (.iconst 0, 1) := by decide +kernel
theorem dL_law_433 : decode cL_law 433 = .ok (.invokevirtual 51, 3) := by decide +kernel
theorem dL_law_436 : decode cL_law 436 = .ok (.pop, 1) := by decide +kernel
theorem dL_law_437 : decode cL_law 437 = .ok (.aload_n 2, 1) := by decide +kernel
theorem dL_law_438 : decode cL_law 438 = .ok (.aload_n 0, 1) := by decide +kernel
theorem dL_law_439 : decode cL_law 439 = .ok (.iload_n 3, 1) := by decide +kernel
theorem dL_law_440 : decode cL_law 440 = .ok (.iconst 1, 1) := by decide +kernel
theorem dL_law_441 : decode cL_law 441 = .ok (.iadd, 1) := by decide +kernel
theorem dL_law_442 : decode cL_law 442 = .ok (.iaload, 1) := by decide +kernel
theorem dL_law_443 : decode cL_law 443 = .ok (.aload_n 0, 1) := by decide +kernel
theorem dL_law_444 : decode cL_law 444 = .ok (.iload_n 3, 1) := by decide +kernel
theorem dL_law_445 : decode cL_law 445 = .ok (.iconst 2, 1) := by decide +kernel
theorem dL_law_446 : decode cL_law 446 = .ok (.iadd, 1) := by decide +kernel
theorem dL_law_447 : decode cL_law 447 = .ok (.iaload, 1) := by decide +kernel
theorem dL_law_448 : decode cL_law 448 = .ok (.ifCond .eq 7, 3) := by decide +kernel
theorem dL_law_451 : decode cL_law 451 = .ok (.iconst 1, 1) := by decide +kernel
theorem dL_law_452 : decode cL_law 452 = .ok (.goto 4, 3) := by decide +kernel
theorem dL_law_455 : decode cL_law 455 = .ok (.iconst 0, 1) := by decide +kernel
theorem dL_law_456 : decode cL_law 456 = .ok (.invokevirtual 55, 3) := by decide +kernel
theorem dL_law_459 : decode cL_law 459 = .ok (.pop, 1) := by decide +kernel
theorem dL_law_460 : decode cL_law 460 = .ok (.goto 892, 3) := by decide +kernel
theorem dL_law_463 : decode cL_law 463 = .ok (.aload_n 1, 1) := by decide +kernel
theorem dL_law_464 : decode cL_law 464 = .ok (.aload_n 0, 1) := by decide +kernel
theorem dL_law_465 : decode cL_law 465 = .ok (.iload_n 3, 1) := by decide +kernel
theorem dL_law_466 : decode cL_law 466 = .ok (.iconst 1, 1) := by decide +kernel
theorem dL_law_467 : decode cL_law 467 = .ok (.iadd, 1) := by decide +kernel
theorem dL_law_468 : decode cL_law 468 = .ok (.iaload, 1) := by decide +kernel
theorem dL_law_469 : decode cL_law 469 = .ok (.aload_n 0, 1) := by decide +kernel
theorem dL_law_470 : decode cL_law 470 = .ok (.iload_n 3, 1) := by decide +kernel
theorem dL_law_471 : decode cL_law 471 = .ok (.iconst 2, 1) := by decide +kernel
theorem dL_law_472 : decode cL_law 472 = .ok (.iadd, 1) := by decide +kernel
theorem dL_law_473 : decode cL_law 473 = .ok (.iaload, 1) := by decide +kernel
theorem dL_law_474 : decode cL_law 474 = .ok (.invokevirtual 56, 3) := by decide +kernel
theorem dL_law_477 : decode cL_law 477 = .ok (.pop, 1) := by decide +kernel
theorem dL_law_478 : decode cL_law 478 = .ok (.aload_n 2, 1) := by decide +kernel
theorem dL_law_479 : decode cL_law 479 = .ok (.aload_n 0, 1) := by decide +kernel
theorem dL_law_480 : decode cL_law 480 = .ok (.iload_n 3, 1) := by decide +kernel
theorem dL_law_481 : decode cL_law 481 = .ok (.iconst 1, 1) := by decide +kernel
theorem dL_law_482 : decode cL_law 482 = .ok (.iadd, 1) := by decide +kernel
theorem dL_law_483 : decode cL_law 483 = .ok (.iaload, 1) := by decide +kernel
theorem dL_law_484 : decode cL_law 484 = .ok (.aload_n 0, 1) := by decide +kernel
theorem dL_law_485 : decode cL_law 485 = .ok (.iload_n 3, 1) := by decide +kernel
theorem dL_law_486 : decode cL_law 486 = .ok (.iconst 2, 1) := by decide +kernel
theorem dL_law_487 : decode cL_law 487 = .ok (.iadd, 1) := by decide +kernel
theorem dL_law_488 : decode cL_law 488 = .ok (.iaload, 1) := by decide +kernel
theorem dL_law_489 : decode cL_law 489 = .ok (.invokevirtual 59, 3) := by decide +kernel
theorem dL_law_492 : decode cL_law 492 = .ok (.pop, 1) := by decide +kernel
theorem dL_law_493 : decode cL_law 493 = .ok (.goto 859, 3) := by decide +kernel
theorem dL_law_496 : decode cL_law 496 = .ok (.aload_n 1, 1) := by decide +kernel
theorem dL_law_497 : decode cL_law 497 = .ok (.invokevirtual 60, 3) := by decide +kernel
theorem dL_law_500 : decode cL_law 500 = .ok (.pop, 1) := by decide +kernel
theorem dL_law_501 : decode cL_law 501 = .ok (.aload_n 2, 1) := by decide +kernel
theorem dL_law_502 : decode cL_law 502 = .ok (.invokevirtual 63, 3) := by decide +kernel
theorem dL_law_505 : decode cL_law 505 = .ok (.pop, 1) := by decide +kernel
theorem dL_law_506 : decode cL_law 506 = .ok (.goto 846, 3) := by decide +kernel
theorem dL_law_509 : decode cL_law 509 = .ok (.aload_n 1, 1) := by decide +kernel
theorem dL_law_510 : decode cL_law 510 = .ok (.aload_n 0, 1) := by decide +kernel
theorem dL_law_511 : decode cL_law 511 = .ok (.iload_n 3, 1) := by decide +kernel
theorem dL_law_512 : decode cL_law 512 = .ok (.iconst 1, 1) := by decide +kernel
theorem dL_law_513 : decode cL_law 513 = .ok (.iadd, 1) := by decide +kernel
theorem dL_law_514 : decode cL_law 514 = .ok (.iaload, 1) := by decide +kernel
theorem dL_law_515 : decode cL_law 515 = .ok (.aload_n 0, 1) := by decide +kernel
theorem dL_law_516 : decode cL_law 516 = .ok (.iload_n 3, 1) := by decide +kernel
theorem dL_law_517 : decode cL_law 517 = .ok (.iconst 2, 1) := by decide +kernel
theorem dL_law_518 : decode cL_law 518 = .ok (.iadd, 1) := by decide +kernel
theorem dL_law_519 : decode cL_law 519 = .ok (.iaload, 1) := by decide +kernel
theorem dL_law_520 : decode cL_law 520 = .ok (.aload_n 0, 1) := by decide +kernel
theorem dL_law_521 : decode cL_law 521 = .ok (.iload_n 3, 1) := by decide +kernel
theorem dL_law_522 : decode cL_law 522 = .ok (.iconst 3, 1) := by decide +kernel
theorem dL_law_523 : decode cL_law 523 = .ok (.iadd, 1) := by decide +kernel
theorem dL_law_524 : decode cL_law 524 = .ok (.iaload, 1) := by decide +kernel
theorem dL_law_525 : decode cL_law 525 = .ok (.invokevirtual 64, 3) := by decide +kernel
theorem dL_law_528 : decode cL_law 528 = .ok (.pop, 1) := by decide +kernel
theorem dL_law_529 : decode cL_law 529 = .ok (.aload_n 2, 1) := by decide +kernel
theorem dL_law_530 : decode cL_law 530 = .ok (.aload_n 0, 1) := by decide +kernel
theorem dL_law_531 : decode cL_law 531 = .ok (.iload_n 3, 1) := by decide +kernel
theorem dL_law_532 : decode cL_law 532 = .ok (.iconst 1, 1) := by decide +kernel
theorem dL_law_533 : decode cL_law 533 = .ok (.iadd, 1) := by decide +kernel
theorem dL_law_534 : decode cL_law 534 = .ok (.iaload, 1) := by decide +kernel
theorem dL_law_535 : decode cL_law 535 = .ok (.aload_n 0, 1) := by decide +kernel
theorem dL_law_536 : decode cL_law 536 = .ok (.iload_n 3, 1) := by decide +kernel
theorem dL_law_537 : decode cL_law 537 = .ok (.iconst 2, 1) := by decide +kernel
theorem dL_law_538 : decode cL_law 538 = .ok (.iadd, 1) := by decide +kernel
theorem dL_law_539 : decode cL_law 539 = .ok (.iaload, 1) := by decide +kernel
theorem dL_law_540 : decode cL_law 540 = .ok (.aload_n 0, 1) := by decide +kernel
theorem dL_law_541 : decode cL_law 541 = .ok (.iload_n 3, 1) := by decide +kernel
theorem dL_law_542 : decode cL_law 542 = .ok (.iconst 3, 1) := by decide +kernel
theorem dL_law_543 : decode cL_law 543 = .ok (.iadd, 1) := by decide +kernel
theorem dL_law_544 : decode cL_law 544 = .ok (.iaload, 1) := by decide +kernel
theorem dL_law_545 : decode cL_law 545 = .ok (.invokevirtual 68, 3) := by decide +kernel
theorem dL_law_548 : decode cL_law 548 = .ok (.pop, 1) := by decide +kernel
theorem dL_law_549 : decode cL_law 549 = .ok (.goto 803, 3) := by decide +kernel
theorem dL_law_552 : decode cL_law 552 = .ok (.aload_n 1, 1) := by decide +kernel
theorem dL_law_553 : decode cL_law 553 = .ok (.aload_n 0, 1) := by decide +kernel
theorem dL_law_554 : decode cL_law 554 = .ok (.iload_n 3, 1) := by decide +kernel
theorem dL_law_555 : decode cL_law 555 = .ok (.iconst 1, 1) := by decide +kernel
theorem dL_law_556 : decode cL_law 556 = .ok (.iadd, 1) := by decide +kernel
theorem dL_law_557 : decode cL_law 557 = .ok (.iaload, 1) := by decide +kernel
theorem dL_law_558 : decode cL_law 558 = .ok (.aload_n 0, 1) := by decide +kernel
theorem dL_law_559 : decode cL_law 559 = .ok (.iload_n 3, 1) := by decide +kernel
theorem dL_law_560 : decode cL_law 560 = .ok (.iconst 2, 1) := by decide +kernel
theorem dL_law_561 : decode cL_law 561 = .ok (.iadd, 1) := by decide +kernel
theorem dL_law_562 : decode cL_law 562 = .ok (.iaload, 1) := by decide +kernel
theorem dL_law_563 : decode cL_law 563 = .ok (.aload_n 0, 1) := by decide +kernel
theorem dL_law_564 : decode cL_law 564 = .ok (.iload_n 3, 1) := by decide +kernel
theorem dL_law_565 : decode cL_law 565 = .ok (.iconst 3, 1) := by decide +kernel
theorem dL_law_566 : decode cL_law 566 = .ok (.iadd, 1) := by decide +kernel
theorem dL_law_567 : decode cL_law 567 = .ok (.iaload, 1) := by decide +kernel
theorem dL_law_568 : decode cL_law 568 = .ok (.invokevirtual 69, 3) := by decide +kernel
theorem dL_law_571 : decode cL_law 571 = .ok (.pop2, 1) := by decide +kernel
theorem dL_law_572 : decode cL_law 572 = .ok (.aload_n 2, 1) := by decide +kernel
theorem dL_law_573 : decode cL_law 573 = .ok (.aload_n 0, 1) := by decide +kernel
theorem dL_law_574 : decode cL_law 574 = .ok (.iload_n 3, 1) := by decide +kernel
theorem dL_law_575 : decode cL_law 575 = .ok (.iconst 1, 1) := by decide +kernel
theorem dL_law_576 : decode cL_law 576 = .ok (.iadd, 1) := by decide +kernel
theorem dL_law_577 : decode cL_law 577 = .ok (.iaload, 1) := by decide +kernel
theorem dL_law_578 : decode cL_law 578 = .ok (.aload_n 0, 1) := by decide +kernel
theorem dL_law_579 : decode cL_law 579 = .ok (.iload_n 3, 1) := by decide +kernel
theorem dL_law_580 : decode cL_law 580 = .ok (.iconst 2, 1) := by decide +kernel
theorem dL_law_581 : decode cL_law 581 = .ok (.iadd, 1) := by decide +kernel
theorem dL_law_582 : decode cL_law 582 = .ok (.iaload, 1) := by decide +kernel
theorem dL_law_583 : decode cL_law 583 = .ok (.aload_n 0, 1) := by decide +kernel
theorem dL_law_584 : decode cL_law 584 = .ok (.iload_n 3, 1) := by decide +kernel
theorem dL_law_585 : decode cL_law 585 = .ok (.iconst 3, 1) := by decide +kernel
theorem dL_law_586 : decode cL_law 586 = .ok (.iadd, 1) := by decide +kernel
theorem dL_law_587 : decode cL_law 587 = .ok (.iaload, 1) := by decide +kernel
theorem dL_law_588 : decode cL_law 588 = .ok (.invokevirtual 73, 3) := by decide +kernel
theorem dL_law_591 : decode cL_law 591 = .ok (.pop2, 1) := by decide +kernel
theorem dL_law_592 : decode cL_law 592 = .ok (.goto 760, 3) := by decide +kernel
theorem dL_law_595 : decode cL_law 595 = .ok (.aload_n 1, 1) := by decide +kernel
theorem dL_law_596 : decode cL_law 596 = .ok (.aload_n 0, 1) := by decide +kernel
theorem dL_law_597 : decode cL_law 597 = .ok (.iload_n 3, 1) := by decide +kernel
theorem dL_law_598 : decode cL_law 598 = .ok (.iconst 1, 1) := by decide +kernel
theorem dL_law_599 : decode cL_law 599 = .ok (.iadd, 1) := by decide +kernel
theorem dL_law_600 : decode cL_law 600 = .ok (.iaload, 1) := by decide +kernel
theorem dL_law_601 : decode cL_law 601 = .ok (.aload_n 0, 1) := by decide +kernel
theorem dL_law_602 : decode cL_law 602 = .ok (.iload_n 3, 1) := by decide +kernel
theorem dL_law_603 : decode cL_law 603 = .ok (.iconst 2, 1) := by decide +kernel
theorem dL_law_604 : decode cL_law 604 = .ok (.iadd, 1) := by decide +kernel
theorem dL_law_605 : decode cL_law 605 = .ok (.iaload, 1) := by decide +kernel
theorem dL_law_606 : decode cL_law 606 = .ok (.invokevirtual 74, 3) := by decide +kernel
theorem dL_law_609 : decode cL_law 609 = .ok (.pop2, 1) := by decide +kernel
theorem dL_law_610 : decode cL_law 610 = .ok (.aload_n 2, 1) := by decide +kernel
theorem dL_law_611 : decode cL_law 611 = .ok (.aload_n 0, 1) := by decide +kernel
theorem dL_law_612 : decode cL_law 612 = .ok (.iload_n 3, 1) := by decide +kernel
theorem dL_law_613 : decode cL_law 613 = .ok (.iconst 1, 1) := by decide +kernel
theorem dL_law_614 : decode cL_law 614 = .ok (.iadd, 1) := by decide +kernel
theorem dL_law_615 : decode cL_law 615 = .ok (.iaload, 1) := by decide +kernel
theorem dL_law_616 : decode cL_law 616 = .ok (.aload_n 0, 1) := by decide +kernel
theorem dL_law_617 : decode cL_law 617 = .ok (.iload_n 3, 1) := by decide +kernel
theorem dL_law_618 : decode cL_law 618 = .ok (.iconst 2, 1) := by decide +kernel
theorem dL_law_619 : decode cL_law 619 = .ok (.iadd, 1) := by decide +kernel
theorem dL_law_620 : decode cL_law 620 = .ok (.iaload, 1) := by decide +kernel
theorem dL_law_621 : decode cL_law 621 = .ok (.invokevirtual 78, 3) := by decide +kernel
theorem dL_law_624 : decode cL_law 624 = .ok (.pop2, 1) := by decide +kernel
theorem dL_law_625 : decode cL_law 625 = .ok (.goto 727, 3) := by decide +kernel
theorem dL_law_628 : decode cL_law 628 = .ok (.aload_n 1, 1) := by decide +kernel
theorem dL_law_629 : decode cL_law 629 = .ok (.aload_n 0, 1) := by decide +kernel
theorem dL_law_630 : decode cL_law 630 = .ok (.iload_n 3, 1) := by decide +kernel
theorem dL_law_631 : decode cL_law 631 = .ok (.iconst 1, 1) := by decide +kernel
theorem dL_law_632 : decode cL_law 632 = .ok (.iadd, 1) := by decide +kernel
theorem dL_law_633 : decode cL_law 633 = .ok (.iaload, 1) := by decide +kernel
theorem dL_law_634 : decode cL_law 634 = .ok (.invokevirtual 79, 3) := by decide +kernel
theorem dL_law_637 : decode cL_law 637 = .ok (.pop, 1) := by decide +kernel
theorem dL_law_638 : decode cL_law 638 = .ok (.aload_n 2, 1) := by decide +kernel
theorem dL_law_639 : decode cL_law 639 = .ok (.aload_n 0, 1) := by decide +kernel
theorem dL_law_640 : decode cL_law 640 = .ok (.iload_n 3, 1) := by decide +kernel
theorem dL_law_641 : decode cL_law 641 = .ok (.iconst 1, 1) := by decide +kernel
theorem dL_law_642 : decode cL_law 642 = .ok (.iadd, 1) := by decide +kernel
theorem dL_law_643 : decode cL_law 643 = .ok (.iaload, 1) := by decide +kernel
theorem dL_law_644 : decode cL_law 644 = .ok (.invokevirtual 82, 3) := by decide +kernel
theorem dL_law_647 : decode cL_law 647 = .ok (.pop, 1) := by decide +kernel
theorem dL_law_648 : decode cL_law 648 = .ok (.goto 704, 3) := by decide +kernel
theorem dL_law_651 : decode cL_law 651 = .ok (.aload_n 1, 1) := by decide +kernel
theorem dL_law_652 : decode cL_law 652 = .ok (.invokevirtual 83, 3) := by decide +kernel
theorem dL_law_655 : decode cL_law 655 = .ok (.pop, 1) := by decide +kernel
theorem dL_law_656 : decode cL_law 656 = .ok (.aload_n 2, 1) := by decide +kernel
theorem dL_law_657 : decode cL_law 657 = .ok (.invokevirtual 86, 3) := by decide +kernel
theorem dL_law_660 : decode cL_law 660 = .ok (.pop, 1) := by decide +kernel
theorem dL_law_661 : decode cL_law 661 = .ok (.goto 691, 3) := by decide +kernel
theorem dL_law_664 : decode cL_law 664 = .ok (.aload_n 1, 1) := by decide +kernel
theorem dL_law_665 : decode cL_law 665 = .ok (.aload_n 0, 1) := by decide +kernel
theorem dL_law_666 : decode cL_law 666 = .ok (.iload_n 3, 1) := by decide +kernel
theorem dL_law_667 : decode cL_law 667 = .ok (.iconst 1, 1) := by decide +kernel
theorem dL_law_668 : decode cL_law 668 = .ok (.iadd, 1) := by decide +kernel
theorem dL_law_669 : decode cL_law 669 = .ok (.iaload, 1) := by decide +kernel
theorem dL_law_670 : decode cL_law 670 = .ok (.invokevirtual 87, 3) := by decide +kernel
theorem dL_law_673 : decode cL_law 673 = .ok (.pop, 1) := by decide +kernel
theorem dL_law_674 : decode cL_law 674 = .ok (.aload_n 2, 1) := by decide +kernel
theorem dL_law_675 : decode cL_law 675 = .ok (.aload_n 0, 1) := by decide +kernel
theorem dL_law_676 : decode cL_law 676 = .ok (.iload_n 3, 1) := by decide +kernel
theorem dL_law_677 : decode cL_law 677 = .ok (.iconst 1, 1) := by decide +kernel
theorem dL_law_678 : decode cL_law 678 = .ok (.iadd, 1) := by decide +kernel
theorem dL_law_679 : decode cL_law 679 = .ok (.iaload, 1) := by decide +kernel
theorem dL_law_680 : decode cL_law 680 = .ok (.invokevirtual 90, 3) := by decide +kernel
theorem dL_law_683 : decode cL_law 683 = .ok (.pop, 1) := by decide +kernel
theorem dL_law_684 : decode cL_law 684 = .ok (.goto 668, 3) := by decide +kernel
theorem dL_law_687 : decode cL_law 687 = .ok (.aload_n 1, 1) := by decide +kernel
theorem dL_law_688 : decode cL_law 688 = .ok (.aload_n 0, 1) := by decide +kernel
theorem dL_law_689 : decode cL_law 689 = .ok (.iload_n 3, 1) := by decide +kernel
theorem dL_law_690 : decode cL_law 690 = .ok (.iconst 1, 1) := by decide +kernel
theorem dL_law_691 : decode cL_law 691 = .ok (.iadd, 1) := by decide +kernel
theorem dL_law_692 : decode cL_law 692 = .ok (.iaload, 1) := by decide +kernel
theorem dL_law_693 : decode cL_law 693 = .ok (.aload_n 0, 1) := by decide +kernel
theorem dL_law_694 : decode cL_law 694 = .ok (.iload_n 3, 1) := by decide +kernel
theorem dL_law_695 : decode cL_law 695 = .ok (.iconst 2, 1) := by decide +kernel
theorem dL_law_696 : decode cL_law 696 = .ok (.iadd, 1) := by decide +kernel
theorem dL_law_697 : decode cL_law 697 = .ok (.iaload, 1) := by decide +kernel
theorem dL_law_698 : decode cL_law 698 = .ok (.invokevirtual 91, 3) := by decide +kernel
theorem dL_law_701 : decode cL_law 701 = .ok (.pop, 1) := by decide +kernel
theorem dL_law_702 : decode cL_law 702 = .ok (.aload_n 2, 1) := by decide +kernel
theorem dL_law_703 : decode cL_law 703 = .ok (.aload_n 0, 1) := by decide +kernel
theorem dL_law_704 : decode cL_law 704 = .ok (.iload_n 3, 1) := by decide +kernel
theorem dL_law_705 : decode cL_law 705 = .ok (.iconst 1, 1) := by decide +kernel
theorem dL_law_706 : decode cL_law 706 = .ok (.iadd, 1) := by decide +kernel
theorem dL_law_707 : decode cL_law 707 = .ok (.iaload, 1) := by decide +kernel
theorem dL_law_708 : decode cL_law 708 = .ok (.aload_n 0, 1) := by decide +kernel
theorem dL_law_709 : decode cL_law 709 = .ok (.iload_n 3, 1) := by decide +kernel
theorem dL_law_710 : decode cL_law 710 = .ok (.iconst 2, 1) := by decide +kernel
theorem dL_law_711 : decode cL_law 711 = .ok (.iadd, 1) := by decide +kernel
theorem dL_law_712 : decode cL_law 712 = .ok (.iaload, 1) := by decide +kernel
theorem dL_law_713 : decode cL_law 713 = .ok (.invokevirtual 94, 3) := by decide +kernel
theorem dL_law_716 : decode cL_law 716 = .ok (.pop, 1) := by decide +kernel
theorem dL_law_717 : decode cL_law 717 = .ok (.goto 635, 3) := by decide +kernel
theorem dL_law_720 : decode cL_law 720 = .ok (.aload_n 1, 1) := by decide +kernel
theorem dL_law_721 : decode cL_law 721 = .ok (.aload_n 0, 1) := by decide +kernel
theorem dL_law_722 : decode cL_law 722 = .ok (.iload_n 3, 1) := by decide +kernel
theorem dL_law_723 : decode cL_law 723 = .ok (.iconst 1, 1) := by decide +kernel
theorem dL_law_724 : decode cL_law 724 = .ok (.iadd, 1) := by decide +kernel
theorem dL_law_725 : decode cL_law 725 = .ok (.iaload, 1) := by decide +kernel
theorem dL_law_726 : decode cL_law 726 = .ok (.invokevirtual 95, 3) := by decide +kernel
theorem dL_law_729 : decode cL_law 729 = .ok (.pop, 1) := by decide +kernel
theorem dL_law_730 : decode cL_law 730 = .ok (.aload_n 2, 1) := by decide +kernel
theorem dL_law_731 : decode cL_law 731 = .ok (.aload_n 0, 1) := by decide +kernel
theorem dL_law_732 : decode cL_law 732 = .ok (.iload_n 3, 1) := by decide +kernel
theorem dL_law_733 : decode cL_law 733 = .ok (.iconst 1, 1) := by decide +kernel
theorem dL_law_734 : decode cL_law 734 = .ok (.iadd, 1) := by decide +kernel
theorem dL_law_735 : decode cL_law 735 = .ok (.iaload, 1) := by decide +kernel
theorem dL_law_736 : decode cL_law 736 = .ok (.invokevirtual 98, 3) := by decide +kernel
theorem dL_law_739 : decode cL_law 739 = .ok (.pop, 1) := by decide +kernel
theorem dL_law_740 : decode cL_law 740 = .ok (.goto 612, 3) := by decide +kernel
theorem dL_law_743 : decode cL_law 743 = .ok (.aload_n 1, 1) := by decide +kernel
theorem dL_law_744 : decode cL_law 744 = .ok (.invokevirtual 99, 3) := by decide +kernel
theorem dL_law_747 : decode cL_law 747 = .ok (.pop, 1) := by decide +kernel
theorem dL_law_748 : decode cL_law 748 = .ok (.aload_n 2, 1) := by decide +kernel
theorem dL_law_749 : decode cL_law 749 = .ok (.invokevirtual 102, 3) := by decide +kernel
theorem dL_law_752 : decode cL_law 752 = .ok (.pop, 1) := by decide +kernel
theorem dL_law_753 : decode cL_law 753 = .ok (.goto 599, 3) := by decide +kernel
theorem dL_law_756 : decode cL_law 756 = .ok (.aload_n 1, 1) := by decide +kernel
theorem dL_law_757 : decode cL_law 757 = .ok (.aload_n 0, 1) := by decide +kernel
theorem dL_law_758 : decode cL_law 758 = .ok (.iload_n 3, 1) := by decide +kernel
theorem dL_law_759 : decode cL_law 759 = .ok (.iconst 1, 1) := by decide +kernel
theorem dL_law_760 : decode cL_law 760 = .ok (.iadd, 1) := by decide +kernel
theorem dL_law_761 : decode cL_law 761 = .ok (.iaload, 1) := by decide +kernel
theorem dL_law_762 : decode cL_law 762 = .ok (.invokevirtual 103, 3) := by decide +kernel
theorem dL_law_765 : decode cL_law 765 = .ok (.aload_n 2, 1) := by decide +kernel
theorem dL_law_766 : decode cL_law 766 = .ok (.aload_n 0, 1) := by decide +kernel
theorem dL_law_767 : decode cL_law 767 = .ok (.iload_n 3, 1) := by decide +kernel
theorem dL_law_768 : decode cL_law 768 = .ok (.iconst 1, 1) := by decide +kernel
theorem dL_law_769 : decode cL_law 769 = .ok (.iadd, 1) := by decide +kernel
theorem dL_law_770 : decode cL_law 770 = .ok (.iaload, 1) := by decide +kernel
theorem dL_law_771 : decode cL_law 771 = .ok (.invokevirtual 106, 3) := by decide +kernel
theorem dL_law_774 : decode cL_law 774 = .ok (.if_icmp .eq 578, 3) := by decide +kernel
theorem dL_law_777 : decode cL_law 777 = .ok (.iconst 0, 1) := by decide +kernel
theorem dL_law_778 : decode cL_law 778 = .ok (.ireturn, 1) := by decide +kernel
theorem dL_law_779 : decode cL_law 779 = .ok (.aload_n 1, 1) := by decide +kernel
theorem dL_law_780 : decode cL_law 780 = .ok (.aload_n 0, 1) := by decide +kernel
theorem dL_law_781 : decode cL_law 781 = .ok (.iload_n 3, 1) := by decide +kernel
theorem dL_law_782 : decode cL_law 782 = .ok (.iconst 1, 1) := by decide +kernel
theorem dL_law_783 : decode cL_law 783 = .ok (.iadd, 1) := by decide +kernel
theorem dL_law_784 : decode cL_law 784 = .ok (.iaload, 1) := by decide +kernel
theorem dL_law_785 : decode cL_law 785 = .ok (.aload_n 0, 1) := by decide +kernel
theorem dL_law_786 : decode cL_law 786 = .ok (.iload_n 3, 1) := by decide +kernel
theorem dL_law_787 : decode cL_law 787 = .ok (.iconst 2, 1) := by decide +kernel
theorem dL_law_788 : decode cL_law 788 = .ok (.iadd, 1) := by decide +kernel
theorem dL_law_789 : decode cL_law 789 = .ok (.iaload, 1) := by decide +kernel
theorem dL_law_790 : decode cL_law 790 = .ok (.invokevirtual 107, 3) := by decide +kernel
theorem dL_law_793 : decode cL_law 793 = .ok (.pop, 1) := by decide +kernel
theorem dL_law_794 : decode cL_law 794 = .ok (.aload_n 2, 1) := by decide +kernel
theorem dL_law_795 : decode cL_law 795 = .ok (.aload_n 0, 1) := by decide +kernel
theorem dL_law_796 : decode cL_law 796 = .ok (.iload_n 3, 1) := by decide +kernel
theorem dL_law_797 : decode cL_law 797 = .ok (.iconst 1, 1) := by decide +kernel
theorem dL_law_798 : decode cL_law 798 = .ok (.iadd, 1) := by decide +kernel
theorem dL_law_799 : decode cL_law 799 = .ok (.iaload, 1) := by decide +kernel
theorem dL_law_800 : decode cL_law 800 = .ok (.aload_n 0, 1) := by decide +kernel
theorem dL_law_801 : decode cL_law 801 = .ok (.iload_n 3, 1) := by decide +kernel
theorem dL_law_802 : decode cL_law 802 = .ok (.iconst 2, 1) := by decide +kernel
theorem dL_law_803 : decode cL_law 803 = .ok (.iadd, 1) := by decide +kernel
theorem dL_law_804 : decode cL_law 804 = .ok (.iaload, 1) := by decide +kernel
theorem dL_law_805 : decode cL_law 805 = .ok (.invokevirtual 110, 3) := by decide +kernel
theorem dL_law_808 : decode cL_law 808 = .ok (.pop, 1) := by decide +kernel
theorem dL_law_809 : decode cL_law 809 = .ok (.goto 543, 3) := by decide +kernel
theorem dL_law_812 : decode cL_law 812 = .ok (.aload_n 1, 1) := by decide +kernel
theorem dL_law_813 : decode cL_law 813 = .ok (.aload_n 0, 1) := by decide +kernel
theorem dL_law_814 : decode cL_law 814 = .ok (.iload_n 3, 1) := by decide +kernel
theorem dL_law_815 : decode cL_law 815 = .ok (.iconst 1, 1) := by decide +kernel
theorem dL_law_816 : decode cL_law 816 = .ok (.iadd, 1) := by decide +kernel
theorem dL_law_817 : decode cL_law 817 = .ok (.iaload, 1) := by decide +kernel
theorem dL_law_818 : decode cL_law 818 = .ok (.invokevirtual 111, 3) := by decide +kernel
theorem dL_law_821 : decode cL_law 821 = .ok (.pop, 1) := by decide +kernel
theorem dL_law_822 : decode cL_law 822 = .ok (.aload_n 2, 1) := by decide +kernel
theorem dL_law_823 : decode cL_law 823 = .ok (.aload_n 0, 1) := by decide +kernel
theorem dL_law_824 : decode cL_law 824 = .ok (.iload_n 3, 1) := by decide +kernel
theorem dL_law_825 : decode cL_law 825 = .ok (.iconst 1, 1) := by decide +kernel
theorem dL_law_826 : decode cL_law 826 = .ok (.iadd, 1) := by decide +kernel
theorem dL_law_827 : decode cL_law 827 = .ok (.iaload, 1) := by decide +kernel
theorem dL_law_828 : decode cL_law 828 = .ok (.invokevirtual 114, 3) := by decide +kernel
theorem dL_law_831 : decode cL_law 831 = .ok (.pop, 1) := by decide +kernel
theorem dL_law_832 : decode cL_law 832 = .ok (.goto 520, 3) := by decide +kernel
theorem dL_law_835 : decode cL_law 835 = .ok (.aload_n 1, 1) := by decide +kernel
theorem dL_law_836 : decode cL_law 836 = .ok (.aload_n 0, 1) := by decide +kernel
theorem dL_law_837 : decode cL_law 837 = .ok (.iload_n 3, 1) := by decide +kernel
theorem dL_law_838 : decode cL_law 838 = .ok (.iconst 1, 1) := by decide +kernel
theorem dL_law_839 : decode cL_law 839 = .ok (.iadd, 1) := by decide +kernel
theorem dL_law_840 : decode cL_law 840 = .ok (.iaload, 1) := by decide +kernel
theorem dL_law_841 : decode cL_law 841 = .ok (.aload_n 0, 1) := by decide +kernel
theorem dL_law_842 : decode cL_law 842 = .ok (.iload_n 3, 1) := by decide +kernel
theorem dL_law_843 : decode cL_law 843 = .ok (.iconst 2, 1) := by decide +kernel
theorem dL_law_844 : decode cL_law 844 = .ok (.iadd, 1) := by decide +kernel
theorem dL_law_845 : decode cL_law 845 = .ok (.iaload, 1) := by decide +kernel
theorem dL_law_846 : decode cL_law 846 = .ok (.aload_n 0, 1) := by decide +kernel
theorem dL_law_847 : decode cL_law 847 = .ok (.iload_n 3, 1) := by decide +kernel
theorem dL_law_848 : decode cL_law 848 = .ok (.iconst 3, 1) := by decide +kernel
theorem dL_law_849 : decode cL_law 849 = .ok (.iadd, 1) := by decide +kernel
theorem dL_law_850 : decode cL_law 850 = .ok (.iaload, 1) := by decide +kernel
theorem dL_law_851 : decode cL_law 851 = .ok (.ifCond .eq 7, 3) := by decide +kernel
theorem dL_law_854 : decode cL_law 854 = .ok (.iconst 1, 1) := by decide +kernel
theorem dL_law_855 : decode cL_law 855 = .ok (.goto 4, 3) := by decide +kernel
theorem dL_law_858 : decode cL_law 858 = .ok (.iconst 0, 1) := by decide +kernel
theorem dL_law_859 : decode cL_law 859 = .ok (.aload_n 0, 1) := by decide +kernel
theorem dL_law_860 : decode cL_law 860 = .ok (.iload_n 3, 1) := by decide +kernel
theorem dL_law_861 : decode cL_law 861 = .ok (.iconst 4, 1) := by decide +kernel
theorem dL_law_862 : decode cL_law 862 = .ok (.iadd, 1) := by decide +kernel
theorem dL_law_863 : decode cL_law 863 = .ok (.iaload, 1) := by decide +kernel
theorem dL_law_864 : decode cL_law 864 = .ok (.invokevirtual 115, 3) := by decide +kernel
theorem dL_law_867 : decode cL_law 867 = .ok (.pop, 1) := by decide +kernel
theorem dL_law_868 : decode cL_law 868 = .ok (.aload_n 2, 1) := by decide +kernel
theorem dL_law_869 : decode cL_law 869 = .ok (.aload_n 0, 1) := by decide +kernel
theorem dL_law_870 : decode cL_law 870 = .ok (.iload_n 3, 1) := by decide +kernel
theorem dL_law_871 : decode cL_law 871 = .ok (.iconst 1, 1) := by decide +kernel
theorem dL_law_872 : decode cL_law 872 = .ok (.iadd, 1) := by decide +kernel
theorem dL_law_873 : decode cL_law 873 = .ok (.iaload, 1) := by decide +kernel
theorem dL_law_874 : decode cL_law 874 = .ok (.aload_n 0, 1) := by decide +kernel
theorem dL_law_875 : decode cL_law 875 = .ok (.iload_n 3, 1) := by decide +kernel
theorem dL_law_876 : decode cL_law 876 = .ok (.iconst 2, 1) := by decide +kernel
theorem dL_law_877 : decode cL_law 877 = .ok (.iadd, 1) := by decide +kernel
theorem dL_law_878 : decode cL_law 878 = .ok (.iaload, 1) := by decide +kernel
theorem dL_law_879 : decode cL_law 879 = .ok (.aload_n 0, 1) := by decide +kernel
theorem dL_law_880 : decode cL_law 880 = .ok (.iload_n 3, 1) := by decide +kernel
theorem dL_law_881 : decode cL_law 881 = .ok (.iconst 3, 1) := by decide +kernel
theorem dL_law_882 : decode cL_law 882 = .ok (.iadd, 1) := by decide +kernel
theorem dL_law_883 : decode cL_law 883 = .ok (.iaload, 1) := by decide +kernel
theorem dL_law_884 : decode cL_law 884 = .ok (.ifCond .eq 7, 3) := by decide +kernel
theorem dL_law_887 : decode cL_law 887 = .ok (.iconst 1, 1) := by decide +kernel
theorem dL_law_888 : decode cL_law 888 = .ok (.goto 4, 3) := by decide +kernel
theorem dL_law_891 : decode cL_law 891 = .ok (.iconst 0, 1) := by decide +kernel
theorem dL_law_892 : decode cL_law 892 = .ok (.aload_n 0, 1) := by decide +kernel
theorem dL_law_893 : decode cL_law 893 = .ok (.iload_n 3, 1) := by decide +kernel
theorem dL_law_894 : decode cL_law 894 = .ok (.iconst 4, 1) := by decide +kernel
theorem dL_law_895 : decode cL_law 895 = .ok (.iadd, 1) := by decide +kernel
theorem dL_law_896 : decode cL_law 896 = .ok (.iaload, 1) := by decide +kernel
theorem dL_law_897 : decode cL_law 897 = .ok (.invokevirtual 119, 3) := by decide +kernel
theorem dL_law_900 : decode cL_law 900 = .ok (.pop, 1) := by decide +kernel
theorem dL_law_901 : decode cL_law 901 = .ok (.goto 451, 3) := by decide +kernel
theorem dL_law_904 : decode cL_law 904 = .ok (.aload_n 1, 1) := by decide +kernel
theorem dL_law_905 : decode cL_law 905 = .ok (.aload_n 0, 1) := by decide +kernel
theorem dL_law_906 : decode cL_law 906 = .ok (.iload_n 3, 1) := by decide +kernel
theorem dL_law_907 : decode cL_law 907 = .ok (.iconst 1, 1) := by decide +kernel
theorem dL_law_908 : decode cL_law 908 = .ok (.iadd, 1) := by decide +kernel
theorem dL_law_909 : decode cL_law 909 = .ok (.iaload, 1) := by decide +kernel
theorem dL_law_910 : decode cL_law 910 = .ok (.invokevirtual 120, 3) := by decide +kernel
theorem dL_law_913 : decode cL_law 913 = .ok (.pop, 1) := by decide +kernel
theorem dL_law_914 : decode cL_law 914 = .ok (.aload_n 2, 1) := by decide +kernel
theorem dL_law_915 : decode cL_law 915 = .ok (.aload_n 0, 1) := by decide +kernel
theorem dL_law_916 : decode cL_law 916 = .ok (.iload_n 3, 1) := by decide +kernel
theorem dL_law_917 : decode cL_law 917 = .ok (.iconst 1, 1) := by decide +kernel
theorem dL_law_918 : decode cL_law 918 = .ok (.iadd, 1) := by decide +kernel
theorem dL_law_919 : decode cL_law 919 = .ok (.iaload, 1) := by decide +kernel
theorem dL_law_920 : decode cL_law 920 = .ok (.invokevirtual 123, 3) := by decide +kernel
theorem dL_law_923 : decode cL_law 923 = .ok (.pop, 1) := by decide +kernel
theorem dL_law_924 : decode cL_law 924 = .ok (.goto 428, 3) := by decide +kernel
theorem dL_law_927 : decode cL_law 927 = .ok (.aload_n 1, 1) := by decide +kernel
theorem dL_law_928 : decode cL_law 928 = .ok (.aload_n 0, 1) := by decide +kernel
theorem dL_law_929 : decode cL_law 929 = .ok (.iload_n 3, 1) := by decide +kernel
theorem dL_law_930 : decode cL_law 930 = .ok (.iconst 1, 1) := by decide +kernel
theorem dL_law_931 : decode cL_law 931 = .ok (.iadd, 1) := by decide +kernel
theorem dL_law_932 : decode cL_law 932 = .ok (.iaload, 1) := by decide +kernel
theorem dL_law_933 : decode cL_law 933 = .ok (.aload_n 0, 1) := by decide +kernel
theorem dL_law_934 : decode cL_law 934 = .ok (.iload_n 3, 1) := by decide +kernel
theorem dL_law_935 : decode cL_law 935 = .ok (.iconst 2, 1) := by decide +kernel
theorem dL_law_936 : decode cL_law 936 = .ok (.iadd, 1) := by decide +kernel
theorem dL_law_937 : decode cL_law 937 = .ok (.iaload, 1) := by decide +kernel
theorem dL_law_938 : decode cL_law 938 = .ok (.ifCond .eq 7, 3) := by decide +kernel
theorem dL_law_941 : decode cL_law 941 = .ok (.iconst 1, 1) := by decide +kernel
theorem dL_law_942 : decode cL_law 942 = .ok (.goto 4, 3) := by decide +kernel
theorem dL_law_945 : decode cL_law 945 = .ok (.iconst 0, 1) := by decide +kernel
theorem dL_law_946 : decode cL_law 946 = .ok (.invokevirtual 124, 3) := by decide +kernel
theorem dL_law_949 : decode cL_law 949 = .ok (.pop, 1) := by decide +kernel
theorem dL_law_950 : decode cL_law 950 = .ok (.aload_n 2, 1) := by decide +kernel
theorem dL_law_951 : decode cL_law 951 = .ok (.aload_n 0, 1) := by decide +kernel
theorem dL_law_952 : decode cL_law 952 = .ok (.iload_n 3, 1) := by decide +kernel
theorem dL_law_953 : decode cL_law 953 = .ok (.iconst 1, 1) := by decide +kernel
theorem dL_law_954 : decode cL_law 954 = .ok (.iadd, 1) := by decide +kernel
theorem dL_law_955 : decode cL_law 955 = .ok (.iaload, 1) := by decide +kernel
theorem dL_law_956 : decode cL_law 956 = .ok (.aload_n 0, 1) := by decide +kernel
theorem dL_law_957 : decode cL_law 957 = .ok (.iload_n 3, 1) := by decide +kernel
theorem dL_law_958 : decode cL_law 958 = .ok (.iconst 2, 1) := by decide +kernel
theorem dL_law_959 : decode cL_law 959 = .ok (.iadd, 1) := by decide +kernel
theorem dL_law_960 : decode cL_law 960 = .ok (.iaload, 1) := by decide +kernel
theorem dL_law_961 : decode cL_law 961 = .ok (.ifCond .eq 7, 3) := by decide +kernel
theorem dL_law_964 : decode cL_law 964 = .ok (.iconst 1, 1) := by decide +kernel
theorem dL_law_965 : decode cL_law 965 = .ok (.goto 4, 3) := by decide +kernel
theorem dL_law_968 : decode cL_law 968 = .ok (.iconst 0, 1) := by decide +kernel
theorem dL_law_969 : decode cL_law 969 = .ok (.invokevirtual 127, 3) := by decide +kernel
theorem dL_law_972 : decode cL_law 972 = .ok (.pop, 1) := by decide +kernel
theorem dL_law_973 : decode cL_law 973 = .ok (.goto 379, 3) := by decide +kernel
theorem dL_law_976 : decode cL_law 976 = .ok (.aload_n 1, 1) := by decide +kernel
theorem dL_law_977 : decode cL_law 977 = .ok (.aload_n 0, 1) := by decide +kernel
theorem dL_law_978 : decode cL_law 978 = .ok (.iload_n 3, 1) := by decide +kernel
theorem dL_law_979 : decode cL_law 979 = .ok (.iconst 1, 1) := by decide +kernel
theorem dL_law_980 : decode cL_law 980 = .ok (.iadd, 1) := by decide +kernel
theorem dL_law_981 : decode cL_law 981 = .ok (.iaload, 1) := by decide +kernel
theorem dL_law_982 : decode cL_law 982 = .ok (.aload_n 0, 1) := by decide +kernel
theorem dL_law_983 : decode cL_law 983 = .ok (.iload_n 3, 1) := by decide +kernel
theorem dL_law_984 : decode cL_law 984 = .ok (.iconst 2, 1) := by decide +kernel
theorem dL_law_985 : decode cL_law 985 = .ok (.iadd, 1) := by decide +kernel
theorem dL_law_986 : decode cL_law 986 = .ok (.iaload, 1) := by decide +kernel
theorem dL_law_987 : decode cL_law 987 = .ok (.invokevirtual 128, 3) := by decide +kernel
theorem dL_law_990 : decode cL_law 990 = .ok (.pop, 1) := by decide +kernel
theorem dL_law_991 : decode cL_law 991 = .ok (.aload_n 2, 1) := by decide +kernel
theorem dL_law_992 : decode cL_law 992 = .ok (.aload_n 0, 1) := by decide +kernel
theorem dL_law_993 : decode cL_law 993 = .ok (.iload_n 3, 1) := by decide +kernel
theorem dL_law_994 : decode cL_law 994 = .ok (.iconst 1, 1) := by decide +kernel
theorem dL_law_995 : decode cL_law 995 = .ok (.iadd, 1) := by decide +kernel
theorem dL_law_996 : decode cL_law 996 = .ok (.iaload, 1) := by decide +kernel
theorem dL_law_997 : decode cL_law 997 = .ok (.aload_n 0, 1) := by decide +kernel
theorem dL_law_998 : decode cL_law 998 = .ok (.iload_n 3, 1) := by decide +kernel
theorem dL_law_999 : decode cL_law 999 = .ok (.iconst 2, 1) := by decide +kernel
theorem dL_law_1000 : decode cL_law 1000 = .ok (.iadd, 1) := by decide +kernel
theorem dL_law_1001 : decode cL_law 1001 = .ok (.iaload, 1) := by decide +kernel
theorem dL_law_1002 : decode cL_law 1002 = .ok (.invokevirtual 131, 3) := by decide +kernel
theorem dL_law_1005 : decode cL_law 1005 = .ok (.pop, 1) := by decide +kernel
theorem dL_law_1006 : decode cL_law 1006 = .ok (.goto 346, 3) := by decide +kernel
theorem dL_law_1009 : decode cL_law 1009 = .ok (.aload_n 1, 1) := by decide +kernel
theorem dL_law_1010 : decode cL_law 1010 = .ok (.invokevirtual 132, 3) := by decide +kernel
theorem dL_law_1013 : decode cL_law 1013 = .ok (.pop, 1) := by decide +kernel
theorem dL_law_1014 : decode cL_law 1014 = .ok (.aload_n 2, 1) := by decide +kernel
theorem dL_law_1015 : decode cL_law 1015 = .ok (.invokevirtual 135, 3) := by decide +kernel
theorem dL_law_1018 : decode cL_law 1018 = .ok (.pop, 1) := by decide +kernel
theorem dL_law_1019 : decode cL_law 1019 = .ok (.goto 333, 3) := by decide +kernel
theorem dL_law_1022 : decode cL_law 1022 = .ok (.aload_n 1, 1) := by decide +kernel
theorem dL_law_1023 : decode cL_law 1023 = .ok (.aload_n 0, 1) := by decide +kernel
theorem dL_law_1024 : decode cL_law 1024 = .ok (.iload_n 3, 1) := by decide +kernel
theorem dL_law_1025 : decode cL_law 1025 = .ok (.iconst 1, 1) := by decide +kernel
theorem dL_law_1026 : decode cL_law 1026 = .ok (.iadd, 1) := by decide +kernel
theorem dL_law_1027 : decode cL_law 1027 = .ok (.iaload, 1) := by decide +kernel
theorem dL_law_1028 : decode cL_law 1028 = .ok (.aload_n 0, 1) := by decide +kernel
theorem dL_law_1029 : decode cL_law 1029 = .ok (.iload_n 3, 1) := by decide +kernel
theorem dL_law_1030 : decode cL_law 1030 = .ok (.iconst 2, 1) := by decide +kernel
theorem dL_law_1031 : decode cL_law 1031 = .ok (.iadd, 1) := by decide +kernel
theorem dL_law_1032 : decode cL_law 1032 = .ok (.iaload, 1) := by decide +kernel
theorem dL_law_1033 : decode cL_law 1033 = .ok (.invokevirtual 136, 3) := by decide +kernel
theorem dL_law_1036 : decode cL_law 1036 = .ok (.pop2, 1) := by decide +kernel
theorem dL_law_1037 : decode cL_law 1037 = .ok (.aload_n 2, 1) := by decide +kernel
theorem dL_law_1038 : decode cL_law 1038 = .ok (.aload_n 0, 1) := by decide +kernel
theorem dL_law_1039 : decode cL_law 1039 = .ok (.iload_n 3, 1) := by decide +kernel
theorem dL_law_1040 : decode cL_law 1040 = .ok (.iconst 1, 1) := by decide +kernel
theorem dL_law_1041 : decode cL_law 1041 = .ok (.iadd, 1) := by decide +kernel
theorem dL_law_1042 : decode cL_law 1042 = .ok (.iaload, 1) := by decide +kernel
theorem dL_law_1043 : decode cL_law 1043 = .ok (.aload_n 0, 1) := by decide +kernel
theorem dL_law_1044 : decode cL_law 1044 = .ok (.iload_n 3, 1) := by decide +kernel
theorem dL_law_1045 : decode cL_law 1045 = .ok (.iconst 2, 1) := by decide +kernel
theorem dL_law_1046 : decode cL_law 1046 = .ok (.iadd, 1) := by decide +kernel
theorem dL_law_1047 : decode cL_law 1047 = .ok (.iaload, 1) := by decide +kernel
theorem dL_law_1048 : decode cL_law 1048 = .ok (.invokevirtual 139, 3) := by decide +kernel
theorem dL_law_1051 : decode cL_law 1051 = .ok (.pop2, 1) := by decide +kernel
theorem dL_law_1052 : decode cL_law 1052 = .ok (.goto 300, 3) := by decide +kernel
theorem dL_law_1055 : decode cL_law 1055 = .ok (.aload_n 1, 1) := by decide +kernel
theorem dL_law_1056 : decode cL_law 1056 = .ok (.aload_n 0, 1) := by decide +kernel
theorem dL_law_1057 : decode cL_law 1057 = .ok (.iload_n 3, 1) := by decide +kernel
theorem dL_law_1058 : decode cL_law 1058 = .ok (.iconst 1, 1) := by decide +kernel
theorem dL_law_1059 : decode cL_law 1059 = .ok (.iadd, 1) := by decide +kernel
theorem dL_law_1060 : decode cL_law 1060 = .ok (.iaload, 1) := by decide +kernel
theorem dL_law_1061 : decode cL_law 1061 = .ok (.aload_n 0, 1) := by decide +kernel
theorem dL_law_1062 : decode cL_law 1062 = .ok (.iload_n 3, 1) := by decide +kernel
theorem dL_law_1063 : decode cL_law 1063 = .ok (.iconst 2, 1) := by decide +kernel
theorem dL_law_1064 : decode cL_law 1064 = .ok (.iadd, 1) := by decide +kernel
theorem dL_law_1065 : decode cL_law 1065 = .ok (.iaload, 1) := by decide +kernel
theorem dL_law_1066 : decode cL_law 1066 = .ok (.aload_n 0, 1) := by decide +kernel
theorem dL_law_1067 : decode cL_law 1067 = .ok (.iload_n 3, 1) := by decide +kernel
theorem dL_law_1068 : decode cL_law 1068 = .ok (.iconst 3, 1) := by decide +kernel
theorem dL_law_1069 : decode cL_law 1069 = .ok (.iadd, 1) := by decide +kernel
theorem dL_law_1070 : decode cL_law 1070 = .ok (.iaload, 1) := by decide +kernel
theorem dL_law_1071 : decode cL_law 1071 = .ok (.aload_n 0, 1) := by decide +kernel
theorem dL_law_1072 : decode cL_law 1072 = .ok (.iload_n 3, 1) := by decide +kernel
theorem dL_law_1073 : decode cL_law 1073 = .ok (.iconst 4, 1) := by decide +kernel
theorem dL_law_1074 : decode cL_law 1074 = .ok (.iadd, 1) := by decide +kernel
theorem dL_law_1075 : decode cL_law 1075 = .ok (.iaload, 1) := by decide +kernel
theorem dL_law_1076 : decode cL_law 1076 = .ok (.invokevirtual 140, 3) := by decide +kernel
theorem dL_law_1079 : decode cL_law 1079 = .ok (.pop2, 1) := by decide +kernel
theorem dL_law_1080 : decode cL_law 1080 = .ok (.aload_n 2, 1) := by decide +kernel
theorem dL_law_1081 : decode cL_law 1081 = .ok (.aload_n 0, 1) := by decide +kernel
theorem dL_law_1082 : decode cL_law 1082 = .ok (.iload_n 3, 1) := by decide +kernel
theorem dL_law_1083 : decode cL_law 1083 = .ok (.iconst 1, 1) := by decide +kernel
theorem dL_law_1084 : decode cL_law 1084 = .ok (.iadd, 1) := by decide +kernel
theorem dL_law_1085 : decode cL_law 1085 = .ok (.iaload, 1) := by decide +kernel
theorem dL_law_1086 : decode cL_law 1086 = .ok (.aload_n 0, 1) := by decide +kernel
theorem dL_law_1087 : decode cL_law 1087 = .ok (.iload_n 3, 1) := by decide +kernel
theorem dL_law_1088 : decode cL_law 1088 = .ok (.iconst 2, 1) := by decide +kernel
theorem dL_law_1089 : decode cL_law 1089 = .ok (.iadd, 1) := by decide +kernel
theorem dL_law_1090 : decode cL_law 1090 = .ok (.iaload, 1) := by decide +kernel
theorem dL_law_1091 : decode cL_law 1091 = .ok (.aload_n 0, 1) := by decide +kernel
theorem dL_law_1092 : decode cL_law 1092 = .ok (.iload_n 3, 1) := by decide +kernel
theorem dL_law_1093 : decode cL_law 1093 = .ok (.iconst 3, 1) := by decide +kernel
theorem dL_law_1094 : decode cL_law 1094 = .ok (.iadd, 1) := by decide +kernel
theorem dL_law_1095 : decode cL_law 1095 = .ok (.iaload, 1) := by decide +kernel
theorem dL_law_1096 : decode cL_law 1096 = .ok (.aload_n 0, 1) := by decide +kernel
theorem dL_law_1097 : decode cL_law 1097 = .ok (.iload_n 3, 1) := by decide +kernel
theorem dL_law_1098 : decode cL_law 1098 = .ok (.iconst 4, 1) := by decide +kernel
theorem dL_law_1099 : decode cL_law 1099 = .ok (.iadd, 1) := by decide +kernel
theorem dL_law_1100 : decode cL_law 1100 = .ok (.iaload, 1) := by decide +kernel
theorem dL_law_1101 : decode cL_law 1101 = .ok (.invokevirtual 144, 3) := by decide +kernel
theorem dL_law_1104 : decode cL_law 1104 = .ok (.pop2, 1) := by decide +kernel
theorem dL_law_1105 : decode cL_law 1105 = .ok (.goto 247, 3) := by decide +kernel
theorem dL_law_1108 : decode cL_law 1108 = .ok (.aload_n 1, 1) := by decide +kernel
theorem dL_law_1109 : decode cL_law 1109 = .ok (.aload_n 0, 1) := by decide +kernel
theorem dL_law_1110 : decode cL_law 1110 = .ok (.iload_n 3, 1) := by decide +kernel
theorem dL_law_1111 : decode cL_law 1111 = .ok (.iconst 1, 1) := by decide +kernel
theorem dL_law_1112 : decode cL_law 1112 = .ok (.iadd, 1) := by decide +kernel
theorem dL_law_1113 : decode cL_law 1113 = .ok (.iaload, 1) := by decide +kernel
theorem dL_law_1114 : decode cL_law 1114 = .ok (.invokevirtual 145, 3) := by decide +kernel
theorem dL_law_1117 : decode cL_law 1117 = .ok (.pop, 1) := by decide +kernel
theorem dL_law_1118 : decode cL_law 1118 = .ok (.aload_n 2, 1) := by decide +kernel
theorem dL_law_1119 : decode cL_law 1119 = .ok (.aload_n 0, 1) := by decide +kernel
theorem dL_law_1120 : decode cL_law 1120 = .ok (.iload_n 3, 1) := by decide +kernel
theorem dL_law_1121 : decode cL_law 1121 = .ok (.iconst 1, 1) := by decide +kernel
theorem dL_law_1122 : decode cL_law 1122 = .ok (.iadd, 1) := by decide +kernel
theorem dL_law_1123 : decode cL_law 1123 = .ok (.iaload, 1) := by decide +kernel
theorem dL_law_1124 : decode cL_law 1124 = .ok (.invokevirtual 148, 3) := by decide +kernel
theorem dL_law_1127 : decode cL_law 1127 = .ok (.pop, 1) := by decide +kernel
theorem dL_law_1128 : decode cL_law 1128 = .ok (.goto 224, 3) := by decide +kernel
theorem dL_law_1131 : decode cL_law 1131 = .ok (.aload_n 1, 1) := by decide +kernel
theorem dL_law_1132 : decode cL_law 1132 = .ok (.aload_n 0, 1) := by decide +kernel
theorem dL_law_1133 : decode cL_law 1133 = .ok (.iload_n 3, 1) := by decide +kernel
theorem dL_law_1134 : decode cL_law 1134 = .ok (.iconst 1, 1) := by decide +kernel
theorem dL_law_1135 : decode cL_law 1135 = .ok (.iadd, 1) := by decide +kernel
theorem dL_law_1136 : decode cL_law 1136 = .ok (.iaload, 1) := by decide +kernel
theorem dL_law_1137 : decode cL_law 1137 = .ok (.invokevirtual 149, 3) := by decide +kernel
theorem dL_law_1140 : decode cL_law 1140 = .ok (.pop, 1) := by decide +kernel
theorem dL_law_1141 : decode cL_law 1141 = .ok (.aload_n 2, 1) := by decide +kernel
theorem dL_law_1142 : decode cL_law 1142 = .ok (.aload_n 0, 1) := by decide +kernel
theorem dL_law_1143 : decode cL_law 1143 = .ok (.iload_n 3, 1) := by decide +kernel
theorem dL_law_1144 : decode cL_law 1144 = .ok (.iconst 1, 1) := by decide +kernel
theorem dL_law_1145 : decode cL_law 1145 = .ok (.iadd, 1) := by decide +kernel
theorem dL_law_1146 : decode cL_law 1146 = .ok (.iaload, 1) := by decide +kernel
theorem dL_law_1147 : decode cL_law 1147 = .ok (.invokevirtual 152, 3) := by decide +kernel
theorem dL_law_1150 : decode cL_law 1150 = .ok (.pop, 1) := by decide +kernel
theorem dL_law_1151 : decode cL_law 1151 = .ok (.goto 201, 3) := by decide +kernel
theorem dL_law_1154 : decode cL_law 1154 = .ok (.aload_n 1, 1) := by decide +kernel
theorem dL_law_1155 : decode cL_law 1155 = .ok (.aload_n 0, 1) := by decide +kernel
theorem dL_law_1156 : decode cL_law 1156 = .ok (.iload_n 3, 1) := by decide +kernel
theorem dL_law_1157 : decode cL_law 1157 = .ok (.iconst 1, 1) := by decide +kernel
theorem dL_law_1158 : decode cL_law 1158 = .ok (.iadd, 1) := by decide +kernel
theorem dL_law_1159 : decode cL_law 1159 = .ok (.iaload, 1) := by decide +kernel
theorem dL_law_1160 : decode cL_law 1160 = .ok (.invokevirtual 153, 3) := by decide +kernel
theorem dL_law_1163 : decode cL_law 1163 = .ok (.pop, 1) := by decide +kernel
theorem dL_law_1164 : decode cL_law 1164 = .ok (.aload_n 2, 1) := by decide +kernel
theorem dL_law_1165 : decode cL_law 1165 = .ok (.aload_n 0, 1) := by decide +kernel
theorem dL_law_1166 : decode cL_law 1166 = .ok (.iload_n 3, 1) := by decide +kernel
theorem dL_law_1167 : decode cL_law 1167 = .ok (.iconst 1, 1) := by decide +kernel
theorem dL_law_1168 : decode cL_law 1168 = .ok (.iadd, 1) := by decide +kernel
theorem dL_law_1169 : decode cL_law 1169 = .ok (.iaload, 1) := by decide +kernel
theorem dL_law_1170 : decode cL_law 1170 = .ok (.invokevirtual 156, 3) := by decide +kernel
theorem dL_law_1173 : decode cL_law 1173 = .ok (.pop, 1) := by decide +kernel
theorem dL_law_1174 : decode cL_law 1174 = .ok (.goto 178, 3) := by decide +kernel
theorem dL_law_1177 : decode cL_law 1177 = .ok (.aload_n 1, 1) := by decide +kernel
theorem dL_law_1178 : decode cL_law 1178 = .ok (.aload_n 0, 1) := by decide +kernel
theorem dL_law_1179 : decode cL_law 1179 = .ok (.iload_n 3, 1) := by decide +kernel
theorem dL_law_1180 : decode cL_law 1180 = .ok (.iconst 1, 1) := by decide +kernel
theorem dL_law_1181 : decode cL_law 1181 = .ok (.iadd, 1) := by decide +kernel
theorem dL_law_1182 : decode cL_law 1182 = .ok (.iaload, 1) := by decide +kernel
theorem dL_law_1183 : decode cL_law 1183 = .ok (.aload_n 0, 1) := by decide +kernel
theorem dL_law_1184 : decode cL_law 1184 = .ok (.iload_n 3, 1) := by decide +kernel
theorem dL_law_1185 : decode cL_law 1185 = .ok (.iconst 2, 1) := by decide +kernel
theorem dL_law_1186 : decode cL_law 1186 = .ok (.iadd, 1) := by decide +kernel
theorem dL_law_1187 : decode cL_law 1187 = .ok (.iaload, 1) := by decide +kernel
theorem dL_law_1188 : decode cL_law 1188 = .ok (.aload_n 0, 1) := by decide +kernel
theorem dL_law_1189 : decode cL_law 1189 = .ok (.iload_n 3, 1) := by decide +kernel
theorem dL_law_1190 : decode cL_law 1190 = .ok (.iconst 3, 1) := by decide +kernel
theorem dL_law_1191 : decode cL_law 1191 = .ok (.iadd, 1) := by decide +kernel
theorem dL_law_1192 : decode cL_law 1192 = .ok (.iaload, 1) := by decide +kernel
theorem dL_law_1193 : decode cL_law 1193 = .ok (.invokevirtual 157, 3) := by decide +kernel
theorem dL_law_1196 : decode cL_law 1196 = .ok (.pop, 1) := by decide +kernel
theorem dL_law_1197 : decode cL_law 1197 = .ok (.aload_n 2, 1) := by decide +kernel
theorem dL_law_1198 : decode cL_law 1198 = .ok (.aload_n 0, 1) := by decide +kernel
theorem dL_law_1199 : decode cL_law 1199 = .ok (.iload_n 3, 1) := by decide +kernel
theorem dL_law_1200 : decode cL_law 1200 = .ok (.iconst 1, 1) := by decide +kernel
theorem dL_law_1201 : decode cL_law 1201 = .ok (.iadd, 1) := by decide +kernel
theorem dL_law_1202 : decode cL_law 1202 = .ok (.iaload, 1) := by decide +kernel
theorem dL_law_1203 : decode cL_law 1203 = .ok (.aload_n 0, 1) := by decide +kernel
theorem dL_law_1204 : decode cL_law 1204 = .ok (.iload_n 3, 1) := by decide +kernel
theorem dL_law_1205 : decode cL_law 1205 = .ok (.iconst 2, 1) := by decide +kernel
theorem dL_law_1206 : decode cL_law 1206 = .ok (.iadd, 1) := by decide +kernel
theorem dL_law_1207 : decode cL_law 1207 = .ok (.iaload, 1) := by decide +kernel
theorem dL_law_1208 : decode cL_law 1208 = .ok (.aload_n 0, 1) := by decide +kernel
theorem dL_law_1209 : decode cL_law 1209 = .ok (.iload_n 3, 1) := by decide +kernel
theorem dL_law_1210 : decode cL_law 1210 = .ok (.iconst 3, 1) := by decide +kernel
theorem dL_law_1211 : decode cL_law 1211 = .ok (.iadd, 1) := by decide +kernel
theorem dL_law_1212 : decode cL_law 1212 = .ok (.iaload, 1) := by decide +kernel
theorem dL_law_1213 : decode cL_law 1213 = .ok (.invokevirtual 160, 3) := by decide +kernel
theorem dL_law_1216 : decode cL_law 1216 = .ok (.pop, 1) := by decide +kernel
theorem dL_law_1217 : decode cL_law 1217 = .ok (.goto 135, 3) := by decide +kernel
theorem dL_law_1220 : decode cL_law 1220 = .ok (.aload_n 1, 1) := by decide +kernel
theorem dL_law_1221 : decode cL_law 1221 = .ok (.aload_n 0, 1) := by decide +kernel
theorem dL_law_1222 : decode cL_law 1222 = .ok (.iload_n 3, 1) := by decide +kernel
theorem dL_law_1223 : decode cL_law 1223 = .ok (.iconst 1, 1) := by decide +kernel
theorem dL_law_1224 : decode cL_law 1224 = .ok (.iadd, 1) := by decide +kernel
theorem dL_law_1225 : decode cL_law 1225 = .ok (.iaload, 1) := by decide +kernel
theorem dL_law_1226 : decode cL_law 1226 = .ok (.aload_n 0, 1) := by decide +kernel
theorem dL_law_1227 : decode cL_law 1227 = .ok (.iload_n 3, 1) := by decide +kernel
theorem dL_law_1228 : decode cL_law 1228 = .ok (.iconst 2, 1) := by decide +kernel
theorem dL_law_1229 : decode cL_law 1229 = .ok (.iadd, 1) := by decide +kernel
theorem dL_law_1230 : decode cL_law 1230 = .ok (.iaload, 1) := by decide +kernel
theorem dL_law_1231 : decode cL_law 1231 = .ok (.aload_n 0, 1) := by decide +kernel
theorem dL_law_1232 : decode cL_law 1232 = .ok (.iload_n 3, 1) := by decide +kernel
theorem dL_law_1233 : decode cL_law 1233 = .ok (.iconst 3, 1) := by decide +kernel
theorem dL_law_1234 : decode cL_law 1234 = .ok (.iadd, 1) := by decide +kernel
theorem dL_law_1235 : decode cL_law 1235 = .ok (.iaload, 1) := by decide +kernel
theorem dL_law_1236 : decode cL_law 1236 = .ok (.invokevirtual 161, 3) := by decide +kernel
theorem dL_law_1239 : decode cL_law 1239 = .ok (.pop, 1) := by decide +kernel
theorem dL_law_1240 : decode cL_law 1240 = .ok (.aload_n 2, 1) := by decide +kernel
theorem dL_law_1241 : decode cL_law 1241 = .ok (.aload_n 0, 1) := by decide +kernel
theorem dL_law_1242 : decode cL_law 1242 = .ok (.iload_n 3, 1) := by decide +kernel
theorem dL_law_1243 : decode cL_law 1243 = .ok (.iconst 1, 1) := by decide +kernel
theorem dL_law_1244 : decode cL_law 1244 = .ok (.iadd, 1) := by decide +kernel
theorem dL_law_1245 : decode cL_law 1245 = .ok (.iaload, 1) := by decide +kernel
theorem dL_law_1246 : decode cL_law 1246 = .ok (.aload_n 0, 1) := by decide +kernel
theorem dL_law_1247 : decode cL_law 1247 = .ok (.iload_n 3, 1) := by decide +kernel
theorem dL_law_1248 : decode cL_law 1248 = .ok (.iconst 2, 1) := by decide +kernel
theorem dL_law_1249 : decode cL_law 1249 = .ok (.iadd, 1) := by decide +kernel
theorem dL_law_1250 : decode cL_law 1250 = .ok (.iaload, 1) := by decide +kernel
theorem dL_law_1251 : decode cL_law 1251 = .ok (.aload_n 0, 1) := by decide +kernel
theorem dL_law_1252 : decode cL_law 1252 = .ok (.iload_n 3, 1) := by decide +kernel
theorem dL_law_1253 : decode cL_law 1253 = .ok (.iconst 3, 1) := by decide +kernel
theorem dL_law_1254 : decode cL_law 1254 = .ok (.iadd, 1) := by decide +kernel
theorem dL_law_1255 : decode cL_law 1255 = .ok (.iaload, 1) := by decide +kernel
theorem dL_law_1256 : decode cL_law 1256 = .ok (.invokevirtual 164, 3) := by decide +kernel
theorem dL_law_1259 : decode cL_law 1259 = .ok (.pop, 1) := by decide +kernel
theorem dL_law_1260 : decode cL_law 1260 = .ok (.goto 92, 3) := by decide +kernel
theorem dL_law_1263 : decode cL_law 1263 = .ok (.aload_n 1, 1) := by decide +kernel
theorem dL_law_1264 : decode cL_law 1264 = .ok (.aload_n 0, 1) := by decide +kernel
theorem dL_law_1265 : decode cL_law 1265 = .ok (.iload_n 3, 1) := by decide +kernel
theorem dL_law_1266 : decode cL_law 1266 = .ok (.iconst 1, 1) := by decide +kernel
theorem dL_law_1267 : decode cL_law 1267 = .ok (.iadd, 1) := by decide +kernel
theorem dL_law_1268 : decode cL_law 1268 = .ok (.iaload, 1) := by decide +kernel
theorem dL_law_1269 : decode cL_law 1269 = .ok (.aload_n 0, 1) := by decide +kernel
theorem dL_law_1270 : decode cL_law 1270 = .ok (.iload_n 3, 1) := by decide +kernel
theorem dL_law_1271 : decode cL_law 1271 = .ok (.iconst 2, 1) := by decide +kernel
theorem dL_law_1272 : decode cL_law 1272 = .ok (.iadd, 1) := by decide +kernel
theorem dL_law_1273 : decode cL_law 1273 = .ok (.iaload, 1) := by decide +kernel
theorem dL_law_1274 : decode cL_law 1274 = .ok (.aload_n 0, 1) := by decide +kernel
theorem dL_law_1275 : decode cL_law 1275 = .ok (.iload_n 3, 1) := by decide +kernel
theorem dL_law_1276 : decode cL_law 1276 = .ok (.iconst 3, 1) := by decide +kernel
theorem dL_law_1277 : decode cL_law 1277 = .ok (.iadd, 1) := by decide +kernel
theorem dL_law_1278 : decode cL_law 1278 = .ok (.iaload, 1) := by decide +kernel
theorem dL_law_1279 : decode cL_law 1279 = .ok (.aload_n 0, 1) := by decide +kernel
theorem dL_law_1280 : decode cL_law 1280 = .ok (.iload_n 3, 1) := by decide +kernel
theorem dL_law_1281 : decode cL_law 1281 = .ok (.iconst 4, 1) := by decide +kernel
theorem dL_law_1282 : decode cL_law 1282 = .ok (.iadd, 1) := by decide +kernel
theorem dL_law_1283 : decode cL_law 1283 = .ok (.iaload, 1) := by decide +kernel
theorem dL_law_1284 : decode cL_law 1284 = .ok (.invokevirtual 165, 3) := by decide +kernel
theorem dL_law_1287 : decode cL_law 1287 = .ok (.pop, 1) := by decide +kernel
theorem dL_law_1288 : decode cL_law 1288 = .ok (.aload_n 2, 1) := by decide +kernel
theorem dL_law_1289 : decode cL_law 1289 = .ok (.aload_n 0, 1) := by decide +kernel
theorem dL_law_1290 : decode cL_law 1290 = .ok (.iload_n 3, 1) := by decide +kernel
theorem dL_law_1291 : decode cL_law 1291 = .ok (.iconst 1, 1) := by decide +kernel
theorem dL_law_1292 : decode cL_law 1292 = .ok (.iadd, 1) := by decide +kernel
theorem dL_law_1293 : decode cL_law 1293 = .ok (.iaload, 1) := by decide +kernel
theorem dL_law_1294 : decode cL_law 1294 = .ok (.aload_n 0, 1) := by decide +kernel
theorem dL_law_1295 : decode cL_law 1295 = .ok (.iload_n 3, 1) := by decide +kernel
theorem dL_law_1296 : decode cL_law 1296 = .ok (.iconst 2, 1) := by decide +kernel
theorem dL_law_1297 : decode cL_law 1297 = .ok (.iadd, 1) := by decide +kernel
theorem dL_law_1298 : decode cL_law 1298 = .ok (.iaload, 1) := by decide +kernel
theorem dL_law_1299 : decode cL_law 1299 = .ok (.aload_n 0, 1) := by decide +kernel
theorem dL_law_1300 : decode cL_law 1300 = .ok (.iload_n 3, 1) := by decide +kernel
theorem dL_law_1301 : decode cL_law 1301 = .ok (.iconst 3, 1) := by decide +kernel
theorem dL_law_1302 : decode cL_law 1302 = .ok (.iadd, 1) := by decide +kernel
theorem dL_law_1303 : decode cL_law 1303 = .ok (.iaload, 1) := by decide +kernel
theorem dL_law_1304 : decode cL_law 1304 = .ok (.aload_n 0, 1) := by decide +kernel
theorem dL_law_1305 : decode cL_law 1305 = .ok (.iload_n 3, 1) := by decide +kernel
theorem dL_law_1306 : decode cL_law 1306 = .ok (.iconst 4, 1) := by decide +kernel
theorem dL_law_1307 : decode cL_law 1307 = .ok (.iadd, 1) := by decide +kernel
theorem dL_law_1308 : decode cL_law 1308 = .ok (.iaload, 1) := by decide +kernel
theorem dL_law_1309 : decode cL_law 1309 = .ok (.invokevirtual 169, 3) := by decide +kernel
theorem dL_law_1312 : decode cL_law 1312 = .ok (.pop, 1) := by decide +kernel
theorem dL_law_1313 : decode cL_law 1313 = .ok (.goto 39, 3) := by decide +kernel
theorem dL_law_1316 : decode cL_law 1316 = .ok (.aload_n 1, 1) := by decide +kernel
theorem dL_law_1317 : decode cL_law 1317 = .ok (.invokevirtual 170, 3) := by decide +kernel
theorem dL_law_1320 : decode cL_law 1320 = .ok (.pop, 1) := by decide +kernel
theorem dL_law_1321 : decode cL_law 1321 = .ok (.aload_n 2, 1) := by decide +kernel
theorem dL_law_1322 : decode cL_law 1322 = .ok (.invokevirtual 173, 3) := by decide +kernel
theorem dL_law_1325 : decode cL_law 1325 = .ok (.pop, 1) := by decide +kernel
theorem dL_law_1326 : decode cL_law 1326 = .ok (.goto 26, 3) := by decide +kernel
theorem dL_law_1329 : decode cL_law 1329 = .ok (.aload_n 1, 1) := by decide +kernel
theorem dL_law_1330 : decode cL_law 1330 = .ok (.aload_n 0, 1) := by decide +kernel
theorem dL_law_1331 : decode cL_law 1331 = .ok (.iload_n 3, 1) := by decide +kernel
theorem dL_law_1332 : decode cL_law 1332 = .ok (.iconst 1, 1) := by decide +kernel
theorem dL_law_1333 : decode cL_law 1333 = .ok (.iadd, 1) := by decide +kernel
theorem dL_law_1334 : decode cL_law 1334 = .ok (.iaload, 1) := by decide +kernel
theorem dL_law_1335 : decode cL_law 1335 = .ok (.invokevirtual 174, 3) := by decide +kernel
theorem dL_law_1338 : decode cL_law 1338 = .ok (.pop, 1) := by decide +kernel
theorem dL_law_1339 : decode cL_law 1339 = .ok (.aload_n 2, 1) := by decide +kernel
theorem dL_law_1340 : decode cL_law 1340 = .ok (.aload_n 0, 1) := by decide +kernel
theorem dL_law_1341 : decode cL_law 1341 = .ok (.iload_n 3, 1) := by decide +kernel
theorem dL_law_1342 : decode cL_law 1342 = .ok (.iconst 1, 1) := by decide +kernel
theorem dL_law_1343 : decode cL_law 1343 = .ok (.iadd, 1) := by decide +kernel
theorem dL_law_1344 : decode cL_law 1344 = .ok (.iaload, 1) := by decide +kernel
theorem dL_law_1345 : decode cL_law 1345 = .ok (.invokevirtual 177, 3) := by decide +kernel
theorem dL_law_1348 : decode cL_law 1348 = .ok (.pop, 1) := by decide +kernel
theorem dL_law_1349 : decode cL_law 1349 = .ok (.goto 3, 3) := by decide +kernel
theorem dL_law_1352 : decode cL_law 1352 = .ok (.iinc 3 5, 3) := by decide +kernel
theorem dL_law_1355 : decode cL_law 1355 = .ok (.goto (-1337), 3) := by decide +kernel
theorem dL_law_1358 : decode cL_law 1358 = .ok (.iconst 1, 1) := by decide +kernel
theorem dL_law_1359 : decode cL_law 1359 = .ok (.ireturn, 1) := by decide +kernel
/-- the law's own method, the two objects made -/
abbrev tw_ML : tw_T := (RL, cL_law, 4, some .boolean, room_1, 107, 3525)
/-- the sheets of both -/
def SR (τ : tw_M) : Prop := ((τ 80 1 = 0 ∧ τ 104 0 = -4) ∨ (τ 80 1 = 1 ∧ ¬ τ 104 0 = -4 ∧ τ 105 0 = τ 80 3)) ∧ ((τ 82 1 = 0 ∧ τ 104 1 = -4) ∨ (τ 82 1 = 1 ∧ ¬ τ 104 1 = -4 ∧ τ 105 1 = τ 82 3)) ∧ ((τ 84 1 = 0 ∧ τ 104 2 = -4) ∨ (τ 84 1 = 1 ∧ ¬ τ 104 2 = -4 ∧ τ 105 2 = τ 84 3)) ∧ ((τ 86 1 = 0 ∧ τ 104 3 = -4) ∨ (τ 86 1 = 1 ∧ ¬ τ 104 3 = -4 ∧ τ 105 3 = τ 86 3))
theorem SR_kept {σ τ : tw_M} (h : SR σ) (h1 : ∀ c j, (c = 80 ∨ c = 82 ∨ c = 84 ∨ c = 86) ∧ (j = 1 ∨ j = 3) → τ c j = σ c j) (h4 : ∀ j, τ 104 j = σ 104 j) (h5 : ∀ j, τ 105 j = σ 105 j) : SR τ := by
  unfold SR at h ⊢
  rw [h1 80 1 (by decide), h1 80 3 (by decide), h1 82 1 (by decide), h1 82 3 (by decide), h1 84 1 (by decide), h1 84 3 (by decide), h1 86 1 (by decide), h1 86 3 (by decide), h4, h4, h4, h4, h5, h5, h5, h5]
  exact h
/-- the tries of both -/
def TT (τ : tw_M) : Prop := τ 29 0 = τ 89 93 ∧ τ 30 0 = τ 89 94 ∧ τ 29 1 = τ 89 95 ∧ τ 30 1 = τ 89 96 ∧ τ 37 0 = τ 89 193 ∧ τ 38 0 = τ 89 194 ∧ τ 37 1 = τ 89 195 ∧ τ 38 1 = τ 89 196 ∧ τ 45 0 = τ 89 293 ∧ τ 46 0 = τ 89 294 ∧ τ 45 1 = τ 89 295 ∧ τ 46 1 = τ 89 296 ∧ (0 ≤ τ 89 94 ∧ τ 89 94 ≤ τ 89 93) ∧ (0 ≤ τ 89 96 ∧ τ 89 96 ≤ τ 89 95) ∧ (0 ≤ τ 89 194 ∧ τ 89 194 ≤ τ 89 193) ∧ (0 ≤ τ 89 196 ∧ τ 89 196 ≤ τ 89 195) ∧ (0 ≤ τ 89 294 ∧ τ 89 294 ≤ τ 89 293) ∧ (0 ≤ τ 89 296 ∧ τ 89 296 ≤ τ 89 295)
theorem TT_kept {σ τ : tw_M} (h : TT σ) (h1 : ∀ c j, (c = 29 ∨ c = 30 ∨ c = 37 ∨ c = 38 ∨ c = 45 ∨ c = 46) ∧ (j = 0 ∨ j = 1) → τ c j = σ c j) (h2 : ∀ j, j = 93 ∨ j = 94 ∨ j = 95 ∨ j = 96 ∨ j = 193 ∨ j = 194 ∨ j = 195 ∨ j = 196 ∨ j = 293 ∨ j = 294 ∨ j = 295 ∨ j = 296 → τ 89 j = σ 89 j) : TT τ := by
  unfold TT at h ⊢
  rw [h1 29 0 (by decide), h1 30 0 (by decide), h1 29 1 (by decide), h1 30 1 (by decide), h1 37 0 (by decide), h1 38 0 (by decide), h1 37 1 (by decide), h1 38 1 (by decide), h1 45 0 (by decide), h1 46 0 (by decide), h1 45 1 (by decide), h1 46 1 (by decide), h2 93 (by decide), h2 94 (by decide), h2 95 (by decide), h2 96 (by decide), h2 193 (by decide), h2 194 (by decide), h2 195 (by decide), h2 196 (by decide), h2 293 (by decide), h2 294 (by decide), h2 295 (by decide), h2 296 (by decide)]
  exact h
/-- what stands between the calls -/
def tw_LI (τ : tw_M) : Prop := mI τ ∧ τ 10 10 = τ 88 12 ∧ SR τ ∧ BY τ ∧ τ 0 13 = τ 88 17 ∧ τ 31 6 = τ 90 0 ∧ τ 39 6 = τ 90 1 ∧ TT τ ∧ ST τ
set_option maxHeartbeats 4000000 in
set_option maxRecDepth 100000 in
theorem w_case_0 {G : tw_G} (hX : tw_isX G) (hM : tw_isM G) {E : List Frame → Array Value → State → State → Prop} (hN : (gN G : Int) ≤ 2560) (i : Int) (hi : 0 ≤ i ∧ i + 5 ≤ (gN G : Int)) (τ : tw_M) (hIτ : tw_I τ) (hL : tw_LI τ) (K : ∀ τ' : tw_M, tw_I τ' → tw_LI τ' → tw_J G tw_ML E 1352 [(0, vR 300), (1, vR 0), (2, vR 88), (3, vI i)] [] τ') : tw_J G tw_ML E 200 [(0, vR 300), (1, vR 0), (2, vR 88), (3, vI i)] [] τ := by
  obtain ⟨mτ, zτ, sτ, bτ, fτ, kτ0, kτ1, tτ, stτ⟩ := hL
  have g9 : (0 : Int) ≤ τ 10 10 ∧ τ 10 10 ≤ 400 := hIτ 10 10
  obtain ⟨v1, ev1⟩ : ∃ v : Int, v = (gxs G (i + 1).toNat).toInt := ⟨_, rfl⟩
  have hv1 : (-2147483648 : Int) ≤ v1 ∧ v1 ≤ 2147483647 := by rw [ev1]; exact i32_in _
  obtain ⟨v2, ev2⟩ : ∃ v : Int, v = (gxs G (i + 2).toNat).toInt := ⟨_, rfl⟩
  have hv2 : (-2147483648 : Int) ≤ v2 ∧ v2 ≤ 2147483647 := by rw [ev2]; exact i32_in _
  obtain ⟨v3, ev3⟩ : ∃ v : Int, v = (gxs G (i + 3).toNat).toInt := ⟨_, rfl⟩
  have hv3 : (-2147483648 : Int) ≤ v3 ∧ v3 ≤ 2147483647 := by rw [ev3]; exact i32_in _
  obtain ⟨v4, ev4⟩ : ∃ v : Int, v = (gxs G (i + 4).toNat).toInt := ⟨_, rfl⟩
  have hv4 : (-2147483648 : Int) ≤ v4 ∧ v4 ≤ 2147483647 := by rw [ev4]; exact i32_in _
  refine j_aload_n (pc := 200) dL_law_200 rfl rfl ?_
  refine j_aload_n (pc := 201) dL_law_201 rfl rfl ?_
  refine j_iload_n (pc := 202) dL_law_202 rfl rfl ?_
  refine j_iconst (pc := 203) dL_law_203 ?_
  refine j_iadd (pc := 204) dL_law_204 ?_
  refine j_scrAt (pc := 205) dL_law_205 (by omega) (by omega) (by omega) ?_
  refine j_topV (show _ = v1 from ev1.symm) ?_
  refine j_i2l (pc := 206) dL_law_206 ?_
  rw [w32_eq (a := v1) (by omega) (by omega)]
  refine j_bipush (pc := 207) dL_law_207 rfl ?_
  refine j_lshl (pc := 209) dL_law_209 (fun z1 ez1 => ?_)
  have hz1 : (-9223372036854775808 : Int) ≤ z1 ∧ z1 ≤ 9223372036854775807 := by rw [ez1]; exact lshlL_in _ _
  refine j_aload_n (pc := 210) dL_law_210 rfl rfl ?_
  refine j_iload_n (pc := 211) dL_law_211 rfl rfl ?_
  refine j_iconst (pc := 212) dL_law_212 ?_
  refine j_iadd (pc := 213) dL_law_213 ?_
  refine j_scrAt (pc := 214) dL_law_214 (by omega) (by omega) (by omega) ?_
  refine j_topV (show _ = v2 from ev2.symm) ?_
  refine j_i2l (pc := 215) dL_law_215 ?_
  rw [w32_eq (a := v2) (by omega) (by omega)]
  refine j_ldc2 (pc := 216) (z := 4294967295) dL_law_216 (tw_inc tm_8 (i := 66) rfl rfl) ?_
  refine j_land (pc := 219) dL_law_219 (fun z2 ez2 => ?_)
  have hz2 : (-9223372036854775808 : Int) ≤ z2 ∧ z2 ≤ 9223372036854775807 := by rw [ez2]; exact landL_in _ _
  refine j_lor (pc := 220) dL_law_220 (fun z3 ez3 => ?_)
  have hz3 : (-9223372036854775808 : Int) ≤ z3 ∧ z3 ≤ 9223372036854775807 := by rw [ez3]; exact lorL_in _ _
  refine j_callV (pc := 221) (As := [vL z3]) (st := []) (c_X11_feed hX z3 ⟨by omega, by omega⟩ τ hIτ) mv_L_15 rfl rfl rfl (a_0 hX) dL_law_221 ⟨Nat.le_of_ble_eq_true rfl, Nat.le_of_ble_eq_true rfl⟩ ⟨Nat.le_of_ble_eq_true rfl, Nat.le_of_ble_eq_true rfl⟩ rfl (Nat.le_of_ble_eq_true rfl) rfl (fun z4 σ5 hz4 => ?_)
  obtain ⟨r7, rfl, hr7, hIσ5, hGσ5, q6_0, q6_1, q6_2⟩ := hz4
  replace q6_0 : (r7 = -3 ∧ 392 < τ 10 10 ∧ σ5 10 10 = τ 10 10) ∨ (r7 = τ 10 10 + 8 ∧ τ 10 10 ≤ 392 ∧ σ5 10 10 = τ 10 10 + 8) := q6_0
  replace q6_1 : ∀ j : Nat, (j : Int) < τ 10 10 → σ5 11 j = τ 11 j := q6_1
  replace q6_2 : r7 = -3 ∨ ∀ k : Nat, (k : Int) < 8 → tw_and (σ5 11 ((τ 10 10).toNat + k)) 255 = byt z3 k := q6_2
  refine j_st (st' := [vI r7]) rfl ?_
  have mσ5 : mI σ5 := mI_kept mτ (fun j hj => hGσ5 89 j (show ¬ ((89 = 10 ∧ (j = 10)) ∨ 89 = 11) from by omega)) (fun j => hGσ5 90 j (show ¬ ((90 = 10 ∧ (j = 10)) ∨ 90 = 11) from by omega)) (hGσ5 91 0 (show ¬ ((91 = 10 ∧ (0 = 10)) ∨ 91 = 11) from by omega)) hIτ
  have sσ5 : SR σ5 := SR_kept sτ (fun c j h => hGσ5 c j (show ¬ ((c = 10 ∧ (j = 10)) ∨ c = 11) from by omega)) (fun j => hGσ5 104 j (show ¬ ((104 = 10 ∧ (j = 10)) ∨ 104 = 11) from by omega)) (fun j => hGσ5 105 j (show ¬ ((105 = 10 ∧ (j = 10)) ∨ 105 = 11) from by omega))
  have tσ5 : TT σ5 := TT_kept tτ (fun c j h => hGσ5 c j (show ¬ ((c = 10 ∧ (j = 10)) ∨ c = 11) from by omega)) (fun j h => hGσ5 89 j (show ¬ ((89 = 10 ∧ (j = 10)) ∨ 89 = 11) from by omega))
  have stσ5 : ST σ5 := ST_F stτ (fun c j h => hGσ5 c j (show ¬ ((c = 10 ∧ (j = 10)) ∨ c = 11) from by unfold STR at h; omega))
  refine j_pop (pc := 224) dL_law_224 rfl ?_
  refine j_aload_n (pc := 225) dL_law_225 rfl rfl ?_
  refine j_aload_n (pc := 226) dL_law_226 rfl rfl ?_
  refine j_iload_n (pc := 227) dL_law_227 rfl rfl ?_
  refine j_iconst (pc := 228) dL_law_228 ?_
  refine j_iadd (pc := 229) dL_law_229 ?_
  refine j_scrAt (pc := 230) dL_law_230 (by omega) (by omega) (by omega) ?_
  refine j_topV (show _ = v1 from ev1.symm) ?_
  refine j_i2l (pc := 231) dL_law_231 ?_
  rw [w32_eq (a := v1) (by omega) (by omega)]
  refine j_bipush (pc := 232) dL_law_232 rfl ?_
  refine j_lshl (pc := 234) dL_law_234 (fun z8 ez8 => ?_)
  have hz8 : (-9223372036854775808 : Int) ≤ z8 ∧ z8 ≤ 9223372036854775807 := by rw [ez8]; exact lshlL_in _ _
  refine j_aload_n (pc := 235) dL_law_235 rfl rfl ?_
  refine j_iload_n (pc := 236) dL_law_236 rfl rfl ?_
  refine j_iconst (pc := 237) dL_law_237 ?_
  refine j_iadd (pc := 238) dL_law_238 ?_
  refine j_scrAt (pc := 239) dL_law_239 (by omega) (by omega) (by omega) ?_
  refine j_topV (show _ = v2 from ev2.symm) ?_
  refine j_i2l (pc := 240) dL_law_240 ?_
  rw [w32_eq (a := v2) (by omega) (by omega)]
  refine j_ldc2 (pc := 241) (z := 4294967295) dL_law_241 (tw_inc tm_8 (i := 66) rfl rfl) ?_
  refine j_land (pc := 244) dL_law_244 (fun z9 ez9 => ?_)
  have hz9 : (-9223372036854775808 : Int) ≤ z9 ∧ z9 ≤ 9223372036854775807 := by rw [ez9]; exact landL_in _ _
  refine j_lor (pc := 245) dL_law_245 (fun z10 ez10 => ?_)
  have hz10 : (-9223372036854775808 : Int) ≤ z10 ∧ z10 ≤ 9223372036854775807 := by rw [ez10]; exact lorL_in _ _
  refine j_callV (pc := 246) (As := [vL z10]) (st := []) (c_X12_feed hM z10 ⟨by omega, by omega⟩ σ5 hIσ5) mv_L_19 rfl rfl rfl (a_88 hM) dL_law_246 ⟨Nat.le_of_ble_eq_true rfl, Nat.le_of_ble_eq_true rfl⟩ ⟨Nat.le_of_ble_eq_true rfl, Nat.le_of_ble_eq_true rfl⟩ rfl (Nat.le_of_ble_eq_true rfl) rfl (fun z11 σ12 hz11 => ?_)
  obtain ⟨r14, rfl, hr14, hIσ12, hGσ12, q13_0, q13_1, q13_2⟩ := hz11
  replace q13_0 : (r14 = -3 ∧ 392 < σ5 88 12 ∧ σ12 88 12 = σ5 88 12) ∨ (r14 = σ5 88 12 + 8 ∧ σ5 88 12 ≤ 392 ∧ σ12 88 12 = σ5 88 12 + 8) := q13_0
  have y15 : σ5 88 12 = τ 88 12 := (hGσ5 88 12 (show ¬ ((88 = 10 ∧ (12 = 10)) ∨ 88 = 11) from by omega))
  have f16 : (0 : Int) ≤ τ 88 12 ∧ τ 88 12 ≤ 400 := hIτ 88 12
  replace q13_1 : ∀ j : Nat, (j : Int) < σ5 88 12 → σ12 98 j = σ5 98 j := q13_1
  have y17 : σ5 88 12 = τ 88 12 := (hGσ5 88 12 (show ¬ ((88 = 10 ∧ (12 = 10)) ∨ 88 = 11) from by omega))
  replace q13_2 : r14 = -3 ∨ ∀ k : Nat, (k : Int) < 8 → σ12 98 ((σ5 88 12).toNat + k) = byt z10 k := q13_2
  have y18 : σ5 88 12 = τ 88 12 := (hGσ5 88 12 (show ¬ ((88 = 10 ∧ (12 = 10)) ∨ 88 = 11) from by omega))
  refine j_st (st' := [vI r14]) rfl ?_
  have mσ12 : mI σ12 := mI_kept mσ5 (fun j hj => hGσ12 89 j (show ¬ ((89 = 88 ∧ (j = 12)) ∨ 89 = 98) from by omega)) (fun j => hGσ12 90 j (show ¬ ((90 = 88 ∧ (j = 12)) ∨ 90 = 98) from by omega)) (hGσ12 91 0 (show ¬ ((91 = 88 ∧ (0 = 12)) ∨ 91 = 98) from by omega)) hIσ5
  have sσ12 : SR σ12 := SR_kept sσ5 (fun c j h => hGσ12 c j (show ¬ ((c = 88 ∧ (j = 12)) ∨ c = 98) from by omega)) (fun j => hGσ12 104 j (show ¬ ((104 = 88 ∧ (j = 12)) ∨ 104 = 98) from by omega)) (fun j => hGσ12 105 j (show ¬ ((105 = 88 ∧ (j = 12)) ∨ 105 = 98) from by omega))
  have tσ12 : TT σ12 := TT_kept tσ5 (fun c j h => hGσ12 c j (show ¬ ((c = 88 ∧ (j = 12)) ∨ c = 98) from by omega)) (fun j h => hGσ12 89 j (show ¬ ((89 = 88 ∧ (j = 12)) ∨ 89 = 98) from by omega))
  have stσ12 : ST σ12 := ST_F stσ5 (fun c j h => hGσ12 c j (show ¬ ((c = 88 ∧ (j = 12)) ∨ c = 98) from by unfold STR at h; omega))
  refine j_pop (pc := 249) dL_law_249 rfl ?_
  refine j_goto (pc := 250) (tgt := 1352) dL_law_250 rfl ?_
  have y19 : σ12 10 10 = σ5 10 10 := (hGσ12 10 10 (show ¬ ((10 = 88 ∧ (10 = 12)) ∨ 10 = 98) from by omega))
  have f20 : (0 : Int) ≤ σ5 10 10 ∧ σ5 10 10 ≤ 400 := hIσ5 10 10
  have y21 : σ12 0 13 = τ 0 13 := ((hGσ12 0 13 (show ¬ ((0 = 88 ∧ (13 = 12)) ∨ 0 = 98) from by omega))).trans (hGσ5 0 13 (show ¬ ((0 = 10 ∧ (13 = 10)) ∨ 0 = 11) from by omega))
  have f22 : (-2147483648 : Int) ≤ τ 0 13 ∧ τ 0 13 ≤ 2147483647 := hIτ 0 13
  have y23 : σ12 88 17 = τ 88 17 := ((hGσ12 88 17 (show ¬ ((88 = 88 ∧ (17 = 12)) ∨ 88 = 98) from by omega))).trans (hGσ5 88 17 (show ¬ ((88 = 10 ∧ (17 = 10)) ∨ 88 = 11) from by omega))
  have f24 : (0 : Int) ≤ τ 88 17 ∧ τ 88 17 ≤ 5 := hIτ 88 17
  have zz : z10 = z3 := by rw [ez10, ez9, ez8, ez3, ez2, ez1]
  have b9 : BY σ12 := by
    have x1 : ∀ j : Nat, (j : Int) < τ 10 10 → σ12 11 j = τ 11 j := fun j hj => (hGσ12 11 j (show ¬ ((11 = 88 ∧ (j = 12)) ∨ 11 = 98) from by omega)).trans (q6_1 j hj)
    have y0 : σ5 88 12 = τ 88 12 := hGσ5 88 12 (show ¬ ((88 = 10 ∧ (12 = 10)) ∨ 88 = 11) from by omega)
    have y1 : ∀ j : Nat, (j : Int) < τ 10 10 → σ12 98 j = τ 98 j := fun j hj => (q13_1 j (by omega)).trans (hGσ5 98 j (show ¬ ((98 = 10 ∧ (j = 10)) ∨ 98 = 11) from by omega))
    by_cases q9 : 392 < τ 10 10
    · exact fun j hj => (by rw [x1 j (by omega), y1 j (by omega)]; exact bτ j (by omega))
    · exact BY_feed (v := z3) (m := 0) bτ rfl (by omega) (by omega) (by omega) x1 (fun k hk => by rw [hGσ12 11 _ (show ¬ ((11 = 88 ∧ (((τ 10 10).toNat + k) = 12)) ∨ 11 = 98) from by omega)]; exact (q6_2.resolve_left (by omega)) k hk) y1 (fun k hk => by (have z := (q13_2.resolve_left (by omega)) k hk); rw [y0, ← zτ, zz] at z; exact z)
  have y25 : σ12 31 6 = τ 31 6 := ((hGσ12 31 6 (show ¬ ((31 = 88 ∧ (6 = 12)) ∨ 31 = 98) from by omega))).trans (hGσ5 31 6 (show ¬ ((31 = 10 ∧ (6 = 10)) ∨ 31 = 11) from by omega))
  have f26 : (0 : Int) ≤ τ 31 6 ∧ τ 31 6 ≤ 1 := hIτ 31 6
  have y27 : σ12 39 6 = τ 39 6 := ((hGσ12 39 6 (show ¬ ((39 = 88 ∧ (6 = 12)) ∨ 39 = 98) from by omega))).trans (hGσ5 39 6 (show ¬ ((39 = 10 ∧ (6 = 10)) ∨ 39 = 11) from by omega))
  have f28 : (0 : Int) ≤ τ 39 6 ∧ τ 39 6 ≤ 1 := hIτ 39 6
  have y29 : σ12 90 0 = τ 90 0 := ((hGσ12 90 0 (show ¬ ((90 = 88 ∧ (0 = 12)) ∨ 90 = 98) from by omega))).trans (hGσ5 90 0 (show ¬ ((90 = 10 ∧ (0 = 10)) ∨ 90 = 11) from by omega))
  have f30 : (0 : Int) ≤ τ 90 0 ∧ τ 90 0 ≤ 1 := hIτ 90 0
  have y31 : σ12 90 1 = τ 90 1 := ((hGσ12 90 1 (show ¬ ((90 = 88 ∧ (1 = 12)) ∨ 90 = 98) from by omega))).trans (hGσ5 90 1 (show ¬ ((90 = 10 ∧ (1 = 10)) ∨ 90 = 11) from by omega))
  have f32 : (0 : Int) ≤ τ 90 1 ∧ τ 90 1 ≤ 1 := hIτ 90 1
  exact K σ12 hIσ12 ⟨mσ12, by omega, sσ12, b9, by omega, by omega, by omega, tσ12, stσ12⟩
set_option maxHeartbeats 4000000 in
set_option maxRecDepth 100000 in
theorem w_case_1 {G : tw_G} (hX : tw_isX G) (hM : tw_isM G) {E : List Frame → Array Value → State → State → Prop} (hN : (gN G : Int) ≤ 2560) (i : Int) (hi : 0 ≤ i ∧ i + 5 ≤ (gN G : Int)) (τ : tw_M) (hIτ : tw_I τ) (hL : tw_LI τ) (K : ∀ τ' : tw_M, tw_I τ' → tw_LI τ' → tw_J G tw_ML E 1352 [(0, vR 300), (1, vR 0), (2, vR 88), (3, vI i)] [] τ') : tw_J G tw_ML E 253 [(0, vR 300), (1, vR 0), (2, vR 88), (3, vI i)] [] τ := by
  obtain ⟨mτ, zτ, sτ, bτ, fτ, kτ0, kτ1, tτ, stτ⟩ := hL
  have g9 : (0 : Int) ≤ τ 10 10 ∧ τ 10 10 ≤ 400 := hIτ 10 10
  obtain ⟨v1, ev1⟩ : ∃ v : Int, v = (gxs G (i + 1).toNat).toInt := ⟨_, rfl⟩
  have hv1 : (-2147483648 : Int) ≤ v1 ∧ v1 ≤ 2147483647 := by rw [ev1]; exact i32_in _
  obtain ⟨v2, ev2⟩ : ∃ v : Int, v = (gxs G (i + 2).toNat).toInt := ⟨_, rfl⟩
  have hv2 : (-2147483648 : Int) ≤ v2 ∧ v2 ≤ 2147483647 := by rw [ev2]; exact i32_in _
  obtain ⟨v3, ev3⟩ : ∃ v : Int, v = (gxs G (i + 3).toNat).toInt := ⟨_, rfl⟩
  have hv3 : (-2147483648 : Int) ≤ v3 ∧ v3 ≤ 2147483647 := by rw [ev3]; exact i32_in _
  obtain ⟨v4, ev4⟩ : ∃ v : Int, v = (gxs G (i + 4).toNat).toInt := ⟨_, rfl⟩
  have hv4 : (-2147483648 : Int) ≤ v4 ∧ v4 ≤ 2147483647 := by rw [ev4]; exact i32_in _
  refine j_aload_n (pc := 253) dL_law_253 rfl rfl ?_
  refine j_aload_n (pc := 254) dL_law_254 rfl rfl ?_
  refine j_iload_n (pc := 255) dL_law_255 rfl rfl ?_
  refine j_iconst (pc := 256) dL_law_256 ?_
  refine j_iadd (pc := 257) dL_law_257 ?_
  refine j_scrAt (pc := 258) dL_law_258 (by omega) (by omega) (by omega) ?_
  refine j_topV (show _ = v1 from ev1.symm) ?_
  refine j_callV (pc := 259) (As := [vI v1]) (st := []) (c_X11_end hX v1 ⟨by omega, by omega⟩ τ hIτ) mv_L_20 rfl rfl rfl (a_0 hX) dL_law_259 ⟨Nat.le_of_ble_eq_true rfl, Nat.le_of_ble_eq_true rfl⟩ ⟨Nat.le_of_ble_eq_true rfl, Nat.le_of_ble_eq_true rfl⟩ rfl (Nat.le_of_ble_eq_true rfl) rfl (fun z1 σ2 hz1 => ?_)
  obtain ⟨r4, rfl, hr4, hIσ2, hGσ2, q3_0⟩ := hz1
  replace q3_0 : (r4 = -1 ∧ ¬ (0 ≤ v1 ∧ v1 ≤ τ 10 10) ∧ σ2 10 10 = τ 10 10) ∨ (r4 = τ 10 10 ∧ 0 ≤ v1 ∧ v1 ≤ τ 10 10 ∧ σ2 10 10 = v1) := q3_0
  refine j_st (st' := [vI r4]) rfl ?_
  have bσ2 : BY σ2 := BY_kept bτ (fun j => hGσ2 11 j (show ¬ ((11 = 10 ∧ (j = 10))) from by omega)) (fun j => hGσ2 98 j (show ¬ ((98 = 10 ∧ (j = 10))) from by omega)) (by omega)
  have mσ2 : mI σ2 := mI_kept mτ (fun j hj => hGσ2 89 j (show ¬ ((89 = 10 ∧ (j = 10))) from by omega)) (fun j => hGσ2 90 j (show ¬ ((90 = 10 ∧ (j = 10))) from by omega)) (hGσ2 91 0 (show ¬ ((91 = 10 ∧ (0 = 10))) from by omega)) hIτ
  have sσ2 : SR σ2 := SR_kept sτ (fun c j h => hGσ2 c j (show ¬ ((c = 10 ∧ (j = 10))) from by omega)) (fun j => hGσ2 104 j (show ¬ ((104 = 10 ∧ (j = 10))) from by omega)) (fun j => hGσ2 105 j (show ¬ ((105 = 10 ∧ (j = 10))) from by omega))
  have tσ2 : TT σ2 := TT_kept tτ (fun c j h => hGσ2 c j (show ¬ ((c = 10 ∧ (j = 10))) from by omega)) (fun j h => hGσ2 89 j (show ¬ ((89 = 10 ∧ (j = 10))) from by omega))
  have stσ2 : ST σ2 := ST_F stτ (fun c j h => hGσ2 c j (show ¬ ((c = 10 ∧ (j = 10))) from by unfold STR at h; omega))
  refine j_pop (pc := 262) dL_law_262 rfl ?_
  refine j_aload_n (pc := 263) dL_law_263 rfl rfl ?_
  refine j_aload_n (pc := 264) dL_law_264 rfl rfl ?_
  refine j_iload_n (pc := 265) dL_law_265 rfl rfl ?_
  refine j_iconst (pc := 266) dL_law_266 ?_
  refine j_iadd (pc := 267) dL_law_267 ?_
  refine j_scrAt (pc := 268) dL_law_268 (by omega) (by omega) (by omega) ?_
  refine j_topV (show _ = v1 from ev1.symm) ?_
  refine j_callV (pc := 269) (As := [vI v1]) (st := []) (c_X12_end hM v1 ⟨by omega, by omega⟩ σ2 hIσ2) mv_L_24 rfl rfl rfl (a_88 hM) dL_law_269 ⟨Nat.le_of_ble_eq_true rfl, Nat.le_of_ble_eq_true rfl⟩ ⟨Nat.le_of_ble_eq_true rfl, Nat.le_of_ble_eq_true rfl⟩ rfl (Nat.le_of_ble_eq_true rfl) rfl (fun z5 σ6 hz5 => ?_)
  obtain ⟨r8, rfl, hr8, hIσ6, hGσ6, q7_0⟩ := hz5
  replace q7_0 : (r8 = -1 ∧ ¬ (0 ≤ v1 ∧ v1 ≤ σ2 88 12) ∧ σ6 88 12 = σ2 88 12) ∨ (r8 = σ2 88 12 ∧ 0 ≤ v1 ∧ v1 ≤ σ2 88 12 ∧ σ6 88 12 = v1) := q7_0
  have y9 : σ2 88 12 = τ 88 12 := (hGσ2 88 12 (show ¬ ((88 = 10 ∧ (12 = 10))) from by omega))
  have f10 : (0 : Int) ≤ τ 88 12 ∧ τ 88 12 ≤ 400 := hIτ 88 12
  refine j_st (st' := [vI r8]) rfl ?_
  have y11 : σ6 10 10 = σ2 10 10 := (hGσ6 10 10 (show ¬ ((10 = 88 ∧ (10 = 12))) from by omega))
  have f12 : (0 : Int) ≤ σ2 10 10 ∧ σ2 10 10 ≤ 400 := hIσ2 10 10
  have bσ6 : BY σ6 := BY_kept bσ2 (fun j => hGσ6 11 j (show ¬ ((11 = 88 ∧ (j = 12))) from by omega)) (fun j => hGσ6 98 j (show ¬ ((98 = 88 ∧ (j = 12))) from by omega)) (by omega)
  have mσ6 : mI σ6 := mI_kept mσ2 (fun j hj => hGσ6 89 j (show ¬ ((89 = 88 ∧ (j = 12))) from by omega)) (fun j => hGσ6 90 j (show ¬ ((90 = 88 ∧ (j = 12))) from by omega)) (hGσ6 91 0 (show ¬ ((91 = 88 ∧ (0 = 12))) from by omega)) hIσ2
  have sσ6 : SR σ6 := SR_kept sσ2 (fun c j h => hGσ6 c j (show ¬ ((c = 88 ∧ (j = 12))) from by omega)) (fun j => hGσ6 104 j (show ¬ ((104 = 88 ∧ (j = 12))) from by omega)) (fun j => hGσ6 105 j (show ¬ ((105 = 88 ∧ (j = 12))) from by omega))
  have tσ6 : TT σ6 := TT_kept tσ2 (fun c j h => hGσ6 c j (show ¬ ((c = 88 ∧ (j = 12))) from by omega)) (fun j h => hGσ6 89 j (show ¬ ((89 = 88 ∧ (j = 12))) from by omega))
  have stσ6 : ST σ6 := ST_F stσ2 (fun c j h => hGσ6 c j (show ¬ ((c = 88 ∧ (j = 12))) from by unfold STR at h; omega))
  refine j_pop (pc := 272) dL_law_272 rfl ?_
  refine j_goto (pc := 273) (tgt := 1352) dL_law_273 rfl ?_
  have y13 : σ6 10 10 = σ2 10 10 := (hGσ6 10 10 (show ¬ ((10 = 88 ∧ (10 = 12))) from by omega))
  have y14 : σ6 0 13 = τ 0 13 := ((hGσ6 0 13 (show ¬ ((0 = 88 ∧ (13 = 12))) from by omega))).trans (hGσ2 0 13 (show ¬ ((0 = 10 ∧ (13 = 10))) from by omega))
  have f15 : (-2147483648 : Int) ≤ τ 0 13 ∧ τ 0 13 ≤ 2147483647 := hIτ 0 13
  have y16 : σ6 88 17 = τ 88 17 := ((hGσ6 88 17 (show ¬ ((88 = 88 ∧ (17 = 12))) from by omega))).trans (hGσ2 88 17 (show ¬ ((88 = 10 ∧ (17 = 10))) from by omega))
  have f17 : (0 : Int) ≤ τ 88 17 ∧ τ 88 17 ≤ 5 := hIτ 88 17
  have y18 : σ6 31 6 = τ 31 6 := ((hGσ6 31 6 (show ¬ ((31 = 88 ∧ (6 = 12))) from by omega))).trans (hGσ2 31 6 (show ¬ ((31 = 10 ∧ (6 = 10))) from by omega))
  have f19 : (0 : Int) ≤ τ 31 6 ∧ τ 31 6 ≤ 1 := hIτ 31 6
  have y20 : σ6 39 6 = τ 39 6 := ((hGσ6 39 6 (show ¬ ((39 = 88 ∧ (6 = 12))) from by omega))).trans (hGσ2 39 6 (show ¬ ((39 = 10 ∧ (6 = 10))) from by omega))
  have f21 : (0 : Int) ≤ τ 39 6 ∧ τ 39 6 ≤ 1 := hIτ 39 6
  have y22 : σ6 90 0 = τ 90 0 := ((hGσ6 90 0 (show ¬ ((90 = 88 ∧ (0 = 12))) from by omega))).trans (hGσ2 90 0 (show ¬ ((90 = 10 ∧ (0 = 10))) from by omega))
  have f23 : (0 : Int) ≤ τ 90 0 ∧ τ 90 0 ≤ 1 := hIτ 90 0
  have y24 : σ6 90 1 = τ 90 1 := ((hGσ6 90 1 (show ¬ ((90 = 88 ∧ (1 = 12))) from by omega))).trans (hGσ2 90 1 (show ¬ ((90 = 10 ∧ (1 = 10))) from by omega))
  have f25 : (0 : Int) ≤ τ 90 1 ∧ τ 90 1 ≤ 1 := hIτ 90 1
  exact K σ6 hIσ6 ⟨mσ6, by omega, sσ6, bσ6, by omega, by omega, by omega, tσ6, stσ6⟩
set_option maxHeartbeats 4000000 in
set_option maxRecDepth 100000 in
theorem w_case_2 {G : tw_G} (hX : tw_isX G) (hM : tw_isM G) {E : List Frame → Array Value → State → State → Prop} (hN : (gN G : Int) ≤ 2560) (i : Int) (hi : 0 ≤ i ∧ i + 5 ≤ (gN G : Int)) (τ : tw_M) (hIτ : tw_I τ) (hL : tw_LI τ) (K : ∀ τ' : tw_M, tw_I τ' → tw_LI τ' → tw_J G tw_ML E 1352 [(0, vR 300), (1, vR 0), (2, vR 88), (3, vI i)] [] τ') : tw_J G tw_ML E 276 [(0, vR 300), (1, vR 0), (2, vR 88), (3, vI i)] [] τ := by
  obtain ⟨mτ, zτ, sτ, bτ, fτ, kτ0, kτ1, tτ, stτ⟩ := hL
  have g9 : (0 : Int) ≤ τ 10 10 ∧ τ 10 10 ≤ 400 := hIτ 10 10
  obtain ⟨v1, ev1⟩ : ∃ v : Int, v = (gxs G (i + 1).toNat).toInt := ⟨_, rfl⟩
  have hv1 : (-2147483648 : Int) ≤ v1 ∧ v1 ≤ 2147483647 := by rw [ev1]; exact i32_in _
  obtain ⟨v2, ev2⟩ : ∃ v : Int, v = (gxs G (i + 2).toNat).toInt := ⟨_, rfl⟩
  have hv2 : (-2147483648 : Int) ≤ v2 ∧ v2 ≤ 2147483647 := by rw [ev2]; exact i32_in _
  obtain ⟨v3, ev3⟩ : ∃ v : Int, v = (gxs G (i + 3).toNat).toInt := ⟨_, rfl⟩
  have hv3 : (-2147483648 : Int) ≤ v3 ∧ v3 ≤ 2147483647 := by rw [ev3]; exact i32_in _
  obtain ⟨v4, ev4⟩ : ∃ v : Int, v = (gxs G (i + 4).toNat).toInt := ⟨_, rfl⟩
  have hv4 : (-2147483648 : Int) ≤ v4 ∧ v4 ≤ 2147483647 := by rw [ev4]; exact i32_in _
  refine j_aload_n (pc := 276) dL_law_276 rfl rfl ?_
  refine j_callV (pc := 277) (As := []) (st := []) (c_X11_text hX τ hIτ) mv_L_25 rfl rfl rfl (a_0 hX) dL_law_277 ⟨Nat.le_of_ble_eq_true rfl, Nat.le_of_ble_eq_true rfl⟩ ⟨Nat.le_of_ble_eq_true rfl, Nat.le_of_ble_eq_true rfl⟩ rfl (Nat.le_of_ble_eq_true rfl) rfl (fun z1 σ2 hz1 => ?_)
  obtain ⟨r4, rfl, hr4, hIσ2, hGσ2, q3_0, q3_1, q3_2, q3_3, q3_4, q3_5, q3_6, q3_7, q3_8⟩ := hz1
  replace q3_0 : σ2 10 10 = 0 := q3_0
  replace q3_1 : r4 = txt (parse (fX τ)) := q3_1
  replace q3_2 : σ2 0 13 = (parse (fX τ)).1 4 := q3_2
  replace q3_3 : (σ2 0 13 = 0 ∧ σ2 31 6 = 0 ∧ σ2 39 6 = 0) ∨ (¬ σ2 0 13 = 0 ∧ σ2 31 6 = τ 31 6 ∧ σ2 39 6 = τ 39 6) := q3_3
  replace q3_4 : (σ2 0 13 = 0 ∧ σ2 29 0 = 0) ∨ (¬ σ2 0 13 = 0 ∧ σ2 29 0 = τ 29 0) := q3_4
  replace q3_5 : (σ2 0 13 = 0 ∧ σ2 30 0 = 0) ∨ (¬ σ2 0 13 = 0 ∧ σ2 30 0 = τ 30 0) := q3_5
  replace q3_6 : (σ2 0 13 = 0 ∧ σ2 29 1 = 0) ∨ (¬ σ2 0 13 = 0 ∧ σ2 29 1 = τ 29 1) := q3_6
  replace q3_7 : (σ2 0 13 = 0 ∧ σ2 30 1 = 0) ∨ (¬ σ2 0 13 = 0 ∧ σ2 30 1 = τ 30 1) := q3_7
  replace q3_8 : (σ2 0 13 = 0 ∧ wW 1 σ2 = pwB (parse (fX τ)).1 ∧ (∀ j : Nat, j < 11 → σ2 3 j = (parse (fX τ)).1 (200 + j)) ∧ σ2 24 0 = 0 ∧ (∀ j : Nat, j < 11 → σ2 28 j = (parse (fX τ)).1 (200 + j)) ∧ σ2 23 4 = (parse (fX τ)).1 105 ∧ σ2 23 5 = (parse (fX τ)).1 106 ∧ σ2 60 6 = 0) ∨ (¬ σ2 0 13 = 0 ∧ ∀ c j : Nat, ((0 < c ∧ c < 10) ∨ (23 ≤ c ∧ c < 88)) → σ2 c j = τ c j) := q3_8
  refine j_st (st' := [vI r4]) rfl ?_
  have bσ2 : BY σ2 := BY_kept bτ (fun j => hGσ2 11 j (show ¬ ((11 = 10 ∧ (j = 3 ∨ j = 4 ∨ j = 5 ∨ j = 6 ∨ j = 7 ∨ j = 8 ∨ j = 10 ∨ j = 11 ∨ j = 12 ∨ j = 13)) ∨ (12 ≤ 11 ∧ 11 < 14) ∨ (14 ≤ 11 ∧ 11 < 23) ∨ (1 ≤ 11 ∧ 11 < 10) ∨ (23 ≤ 11 ∧ 11 < 31) ∨ (11 = 31 ∧ (j = 6)) ∨ (11 = 39 ∧ (j = 6)) ∨ (11 = 60 ∧ (j = 6 ∨ j = 7)) ∨ (11 = 71 ∧ (j = 1)) ∨ (11 = 76 ∧ (j = 1)) ∨ (11 = 0 ∧ (j = 13))) from by omega)) (fun j => hGσ2 98 j (show ¬ ((98 = 10 ∧ (j = 3 ∨ j = 4 ∨ j = 5 ∨ j = 6 ∨ j = 7 ∨ j = 8 ∨ j = 10 ∨ j = 11 ∨ j = 12 ∨ j = 13)) ∨ (12 ≤ 98 ∧ 98 < 14) ∨ (14 ≤ 98 ∧ 98 < 23) ∨ (1 ≤ 98 ∧ 98 < 10) ∨ (23 ≤ 98 ∧ 98 < 31) ∨ (98 = 31 ∧ (j = 6)) ∨ (98 = 39 ∧ (j = 6)) ∨ (98 = 60 ∧ (j = 6 ∨ j = 7)) ∨ (98 = 71 ∧ (j = 1)) ∨ (98 = 76 ∧ (j = 1)) ∨ (98 = 0 ∧ (j = 13))) from by omega)) (by omega)
  have mσ2 : mI σ2 := mI_kept mτ (fun j hj => hGσ2 89 j (show ¬ ((89 = 10 ∧ (j = 3 ∨ j = 4 ∨ j = 5 ∨ j = 6 ∨ j = 7 ∨ j = 8 ∨ j = 10 ∨ j = 11 ∨ j = 12 ∨ j = 13)) ∨ (12 ≤ 89 ∧ 89 < 14) ∨ (14 ≤ 89 ∧ 89 < 23) ∨ (1 ≤ 89 ∧ 89 < 10) ∨ (23 ≤ 89 ∧ 89 < 31) ∨ (89 = 31 ∧ (j = 6)) ∨ (89 = 39 ∧ (j = 6)) ∨ (89 = 60 ∧ (j = 6 ∨ j = 7)) ∨ (89 = 71 ∧ (j = 1)) ∨ (89 = 76 ∧ (j = 1)) ∨ (89 = 0 ∧ (j = 13))) from by omega)) (fun j => hGσ2 90 j (show ¬ ((90 = 10 ∧ (j = 3 ∨ j = 4 ∨ j = 5 ∨ j = 6 ∨ j = 7 ∨ j = 8 ∨ j = 10 ∨ j = 11 ∨ j = 12 ∨ j = 13)) ∨ (12 ≤ 90 ∧ 90 < 14) ∨ (14 ≤ 90 ∧ 90 < 23) ∨ (1 ≤ 90 ∧ 90 < 10) ∨ (23 ≤ 90 ∧ 90 < 31) ∨ (90 = 31 ∧ (j = 6)) ∨ (90 = 39 ∧ (j = 6)) ∨ (90 = 60 ∧ (j = 6 ∨ j = 7)) ∨ (90 = 71 ∧ (j = 1)) ∨ (90 = 76 ∧ (j = 1)) ∨ (90 = 0 ∧ (j = 13))) from by omega)) (hGσ2 91 0 (show ¬ ((91 = 10 ∧ (0 = 3 ∨ 0 = 4 ∨ 0 = 5 ∨ 0 = 6 ∨ 0 = 7 ∨ 0 = 8 ∨ 0 = 10 ∨ 0 = 11 ∨ 0 = 12 ∨ 0 = 13)) ∨ (12 ≤ 91 ∧ 91 < 14) ∨ (14 ≤ 91 ∧ 91 < 23) ∨ (1 ≤ 91 ∧ 91 < 10) ∨ (23 ≤ 91 ∧ 91 < 31) ∨ (91 = 31 ∧ (0 = 6)) ∨ (91 = 39 ∧ (0 = 6)) ∨ (91 = 60 ∧ (0 = 6 ∨ 0 = 7)) ∨ (91 = 71 ∧ (0 = 1)) ∨ (91 = 76 ∧ (0 = 1)) ∨ (91 = 0 ∧ (0 = 13))) from by omega)) hIτ
  have sσ2 : SR σ2 := SR_kept sτ (fun c j h => hGσ2 c j (show ¬ ((c = 10 ∧ (j = 3 ∨ j = 4 ∨ j = 5 ∨ j = 6 ∨ j = 7 ∨ j = 8 ∨ j = 10 ∨ j = 11 ∨ j = 12 ∨ j = 13)) ∨ (12 ≤ c ∧ c < 14) ∨ (14 ≤ c ∧ c < 23) ∨ (1 ≤ c ∧ c < 10) ∨ (23 ≤ c ∧ c < 31) ∨ (c = 31 ∧ (j = 6)) ∨ (c = 39 ∧ (j = 6)) ∨ (c = 60 ∧ (j = 6 ∨ j = 7)) ∨ (c = 71 ∧ (j = 1)) ∨ (c = 76 ∧ (j = 1)) ∨ (c = 0 ∧ (j = 13))) from by omega)) (fun j => hGσ2 104 j (show ¬ ((104 = 10 ∧ (j = 3 ∨ j = 4 ∨ j = 5 ∨ j = 6 ∨ j = 7 ∨ j = 8 ∨ j = 10 ∨ j = 11 ∨ j = 12 ∨ j = 13)) ∨ (12 ≤ 104 ∧ 104 < 14) ∨ (14 ≤ 104 ∧ 104 < 23) ∨ (1 ≤ 104 ∧ 104 < 10) ∨ (23 ≤ 104 ∧ 104 < 31) ∨ (104 = 31 ∧ (j = 6)) ∨ (104 = 39 ∧ (j = 6)) ∨ (104 = 60 ∧ (j = 6 ∨ j = 7)) ∨ (104 = 71 ∧ (j = 1)) ∨ (104 = 76 ∧ (j = 1)) ∨ (104 = 0 ∧ (j = 13))) from by omega)) (fun j => hGσ2 105 j (show ¬ ((105 = 10 ∧ (j = 3 ∨ j = 4 ∨ j = 5 ∨ j = 6 ∨ j = 7 ∨ j = 8 ∨ j = 10 ∨ j = 11 ∨ j = 12 ∨ j = 13)) ∨ (12 ≤ 105 ∧ 105 < 14) ∨ (14 ≤ 105 ∧ 105 < 23) ∨ (1 ≤ 105 ∧ 105 < 10) ∨ (23 ≤ 105 ∧ 105 < 31) ∨ (105 = 31 ∧ (j = 6)) ∨ (105 = 39 ∧ (j = 6)) ∨ (105 = 60 ∧ (j = 6 ∨ j = 7)) ∨ (105 = 71 ∧ (j = 1)) ∨ (105 = 76 ∧ (j = 1)) ∨ (105 = 0 ∧ (j = 13))) from by omega))
  refine j_pop (pc := 280) dL_law_280 rfl ?_
  refine j_aload_n (pc := 281) dL_law_281 rfl rfl ?_
  have ff : fM σ2 = fX τ := (fM_F (hGσ2 88 12 (show ¬ ((88 = 10 ∧ (12 = 3 ∨ 12 = 4 ∨ 12 = 5 ∨ 12 = 6 ∨ 12 = 7 ∨ 12 = 8 ∨ 12 = 10 ∨ 12 = 11 ∨ 12 = 12 ∨ 12 = 13)) ∨ (12 ≤ 88 ∧ 88 < 14) ∨ (14 ≤ 88 ∧ 88 < 23) ∨ (1 ≤ 88 ∧ 88 < 10) ∨ (23 ≤ 88 ∧ 88 < 31) ∨ (88 = 31 ∧ (12 = 6)) ∨ (88 = 39 ∧ (12 = 6)) ∨ (88 = 60 ∧ (12 = 6 ∨ 12 = 7)) ∨ (88 = 71 ∧ (12 = 1)) ∨ (88 = 76 ∧ (12 = 1)) ∨ (88 = 0 ∧ (12 = 13))) from by omega)) (fun j => hGσ2 98 j (show ¬ ((98 = 10 ∧ (j = 3 ∨ j = 4 ∨ j = 5 ∨ j = 6 ∨ j = 7 ∨ j = 8 ∨ j = 10 ∨ j = 11 ∨ j = 12 ∨ j = 13)) ∨ (12 ≤ 98 ∧ 98 < 14) ∨ (14 ≤ 98 ∧ 98 < 23) ∨ (1 ≤ 98 ∧ 98 < 10) ∨ (23 ≤ 98 ∧ 98 < 31) ∨ (98 = 31 ∧ (j = 6)) ∨ (98 = 39 ∧ (j = 6)) ∨ (98 = 60 ∧ (j = 6 ∨ j = 7)) ∨ (98 = 71 ∧ (j = 1)) ∨ (98 = 76 ∧ (j = 1)) ∨ (98 = 0 ∧ (j = 13))) from by omega))).trans (fXM (by omega) bτ).symm
  refine j_callV (pc := 282) (As := []) (st := []) (c_X12_text hM σ2 hIσ2 mσ2 (by rw [ff]; exact fX_FB (hIτ 10 10))) mv_L_29 rfl rfl rfl (a_88 hM) dL_law_282 ⟨Nat.le_of_ble_eq_true rfl, Nat.le_of_ble_eq_true rfl⟩ ⟨Nat.le_of_ble_eq_true rfl, Nat.le_of_ble_eq_true rfl⟩ rfl (Nat.le_of_ble_eq_true rfl) rfl (fun z5 σ6 hz5 => ?_)
  obtain ⟨r8, rfl, hr8, hIσ6, hGσ6, q7_0, q7_1, q7_2, q7_3, q7_4, q7_5, q7_6, q7_7, q7_8, q7_9⟩ := hz5
  replace q7_0 : mI σ6 := q7_0
  replace q7_1 : σ6 88 12 = 0 := q7_1
  replace q7_2 : r8 = txt (parse (fM σ2)) := q7_2
  replace q7_3 : σ6 88 17 = (parse (fM σ2)).1 4 := q7_3
  replace q7_4 : (σ6 88 17 = 0 ∧ σ6 90 0 = 0 ∧ σ6 90 1 = 0) ∨ (¬ σ6 88 17 = 0 ∧ σ6 90 0 = σ2 90 0 ∧ σ6 90 1 = σ2 90 1) := q7_4
  have y9 : σ2 90 0 = τ 90 0 := (hGσ2 90 0 (show ¬ ((90 = 10 ∧ (0 = 3 ∨ 0 = 4 ∨ 0 = 5 ∨ 0 = 6 ∨ 0 = 7 ∨ 0 = 8 ∨ 0 = 10 ∨ 0 = 11 ∨ 0 = 12 ∨ 0 = 13)) ∨ (12 ≤ 90 ∧ 90 < 14) ∨ (14 ≤ 90 ∧ 90 < 23) ∨ (1 ≤ 90 ∧ 90 < 10) ∨ (23 ≤ 90 ∧ 90 < 31) ∨ (90 = 31 ∧ (0 = 6)) ∨ (90 = 39 ∧ (0 = 6)) ∨ (90 = 60 ∧ (0 = 6 ∨ 0 = 7)) ∨ (90 = 71 ∧ (0 = 1)) ∨ (90 = 76 ∧ (0 = 1)) ∨ (90 = 0 ∧ (0 = 13))) from by omega))
  have f10 : (0 : Int) ≤ τ 90 0 ∧ τ 90 0 ≤ 1 := hIτ 90 0
  have y11 : σ2 90 1 = τ 90 1 := (hGσ2 90 1 (show ¬ ((90 = 10 ∧ (1 = 3 ∨ 1 = 4 ∨ 1 = 5 ∨ 1 = 6 ∨ 1 = 7 ∨ 1 = 8 ∨ 1 = 10 ∨ 1 = 11 ∨ 1 = 12 ∨ 1 = 13)) ∨ (12 ≤ 90 ∧ 90 < 14) ∨ (14 ≤ 90 ∧ 90 < 23) ∨ (1 ≤ 90 ∧ 90 < 10) ∨ (23 ≤ 90 ∧ 90 < 31) ∨ (90 = 31 ∧ (1 = 6)) ∨ (90 = 39 ∧ (1 = 6)) ∨ (90 = 60 ∧ (1 = 6 ∨ 1 = 7)) ∨ (90 = 71 ∧ (1 = 1)) ∨ (90 = 76 ∧ (1 = 1)) ∨ (90 = 0 ∧ (1 = 13))) from by omega))
  have f12 : (0 : Int) ≤ τ 90 1 ∧ τ 90 1 ≤ 1 := hIτ 90 1
  replace q7_5 : (σ6 88 17 = 0 ∧ σ6 89 93 = 0) ∨ (¬ σ6 88 17 = 0 ∧ σ6 89 93 = σ2 89 93) := q7_5
  have y13 : σ2 89 93 = τ 89 93 := (hGσ2 89 93 (show ¬ ((89 = 10 ∧ (93 = 3 ∨ 93 = 4 ∨ 93 = 5 ∨ 93 = 6 ∨ 93 = 7 ∨ 93 = 8 ∨ 93 = 10 ∨ 93 = 11 ∨ 93 = 12 ∨ 93 = 13)) ∨ (12 ≤ 89 ∧ 89 < 14) ∨ (14 ≤ 89 ∧ 89 < 23) ∨ (1 ≤ 89 ∧ 89 < 10) ∨ (23 ≤ 89 ∧ 89 < 31) ∨ (89 = 31 ∧ (93 = 6)) ∨ (89 = 39 ∧ (93 = 6)) ∨ (89 = 60 ∧ (93 = 6 ∨ 93 = 7)) ∨ (89 = 71 ∧ (93 = 1)) ∨ (89 = 76 ∧ (93 = 1)) ∨ (89 = 0 ∧ (93 = 13))) from by omega))
  have f14 : (0 : Int) ≤ τ 89 93 ∧ τ 89 93 ≤ 999 := hIτ 89 93
  replace q7_6 : (σ6 88 17 = 0 ∧ σ6 89 94 = 0) ∨ (¬ σ6 88 17 = 0 ∧ σ6 89 94 = σ2 89 94) := q7_6
  have y15 : σ2 89 94 = τ 89 94 := (hGσ2 89 94 (show ¬ ((89 = 10 ∧ (94 = 3 ∨ 94 = 4 ∨ 94 = 5 ∨ 94 = 6 ∨ 94 = 7 ∨ 94 = 8 ∨ 94 = 10 ∨ 94 = 11 ∨ 94 = 12 ∨ 94 = 13)) ∨ (12 ≤ 89 ∧ 89 < 14) ∨ (14 ≤ 89 ∧ 89 < 23) ∨ (1 ≤ 89 ∧ 89 < 10) ∨ (23 ≤ 89 ∧ 89 < 31) ∨ (89 = 31 ∧ (94 = 6)) ∨ (89 = 39 ∧ (94 = 6)) ∨ (89 = 60 ∧ (94 = 6 ∨ 94 = 7)) ∨ (89 = 71 ∧ (94 = 1)) ∨ (89 = 76 ∧ (94 = 1)) ∨ (89 = 0 ∧ (94 = 13))) from by omega))
  have f16 : (-2147483648 : Int) ≤ τ 89 94 ∧ τ 89 94 ≤ 2147483647 := hIτ 89 94
  replace q7_7 : (σ6 88 17 = 0 ∧ σ6 89 95 = 0) ∨ (¬ σ6 88 17 = 0 ∧ σ6 89 95 = σ2 89 95) := q7_7
  have y17 : σ2 89 95 = τ 89 95 := (hGσ2 89 95 (show ¬ ((89 = 10 ∧ (95 = 3 ∨ 95 = 4 ∨ 95 = 5 ∨ 95 = 6 ∨ 95 = 7 ∨ 95 = 8 ∨ 95 = 10 ∨ 95 = 11 ∨ 95 = 12 ∨ 95 = 13)) ∨ (12 ≤ 89 ∧ 89 < 14) ∨ (14 ≤ 89 ∧ 89 < 23) ∨ (1 ≤ 89 ∧ 89 < 10) ∨ (23 ≤ 89 ∧ 89 < 31) ∨ (89 = 31 ∧ (95 = 6)) ∨ (89 = 39 ∧ (95 = 6)) ∨ (89 = 60 ∧ (95 = 6 ∨ 95 = 7)) ∨ (89 = 71 ∧ (95 = 1)) ∨ (89 = 76 ∧ (95 = 1)) ∨ (89 = 0 ∧ (95 = 13))) from by omega))
  have f18 : (0 : Int) ≤ τ 89 95 ∧ τ 89 95 ≤ 999 := hIτ 89 95
  replace q7_8 : (σ6 88 17 = 0 ∧ σ6 89 96 = 0) ∨ (¬ σ6 88 17 = 0 ∧ σ6 89 96 = σ2 89 96) := q7_8
  have y19 : σ2 89 96 = τ 89 96 := (hGσ2 89 96 (show ¬ ((89 = 10 ∧ (96 = 3 ∨ 96 = 4 ∨ 96 = 5 ∨ 96 = 6 ∨ 96 = 7 ∨ 96 = 8 ∨ 96 = 10 ∨ 96 = 11 ∨ 96 = 12 ∨ 96 = 13)) ∨ (12 ≤ 89 ∧ 89 < 14) ∨ (14 ≤ 89 ∧ 89 < 23) ∨ (1 ≤ 89 ∧ 89 < 10) ∨ (23 ≤ 89 ∧ 89 < 31) ∨ (89 = 31 ∧ (96 = 6)) ∨ (89 = 39 ∧ (96 = 6)) ∨ (89 = 60 ∧ (96 = 6 ∨ 96 = 7)) ∨ (89 = 71 ∧ (96 = 1)) ∨ (89 = 76 ∧ (96 = 1)) ∨ (89 = 0 ∧ (96 = 13))) from by omega))
  have f20 : (-2147483648 : Int) ≤ τ 89 96 ∧ τ 89 96 ≤ 2147483647 := hIτ 89 96
  replace q7_9 : (σ6 88 17 = 0 ∧ wM σ6 = pwB (parse (fM σ2)).1 ∧ (∀ j : Nat, j < 11 → σ6 89 (82 + j) = (parse (fM σ2)).1 (200 + j)) ∧ (∀ j : Nat, j < 82 → σ6 89 j = 0) ∧ σ6 91 5 = (parse (fM σ2)).1 105 ∧ σ6 91 6 = (parse (fM σ2)).1 106) ∨ (¬ σ6 88 17 = 0 ∧ ∀ c j : Nat, 89 ≤ c → c < 93 → σ6 c j = σ2 c j) := q7_9
  refine j_st (st' := [vI r8]) rfl ?_
  rw [ff] at q7_2
  rw [ff] at q7_3
  rw [ff] at q7_9
  have y21 : σ6 10 10 = σ2 10 10 := (hGσ6 10 10 (show ¬ ((10 = 88 ∧ (10 = 9 ∨ 10 = 10 ∨ 10 = 12 ∨ 10 = 13 ∨ 10 = 14 ∨ 10 = 15 ∨ 10 = 16 ∨ 10 = 17 ∨ 10 = 18)) ∨ (10 = 89 ∧ 10 < 100) ∨ (90 ≤ 10 ∧ 10 < 98)) from by omega))
  have f22 : (0 : Int) ≤ σ2 10 10 ∧ σ2 10 10 ≤ 400 := hIσ2 10 10
  have bσ6 : BY σ6 := BY_kept bσ2 (fun j => hGσ6 11 j (show ¬ ((11 = 88 ∧ (j = 9 ∨ j = 10 ∨ j = 12 ∨ j = 13 ∨ j = 14 ∨ j = 15 ∨ j = 16 ∨ j = 17 ∨ j = 18)) ∨ (11 = 89 ∧ j < 100) ∨ (90 ≤ 11 ∧ 11 < 98)) from by omega)) (fun j => hGσ6 98 j (show ¬ ((98 = 88 ∧ (j = 9 ∨ j = 10 ∨ j = 12 ∨ j = 13 ∨ j = 14 ∨ j = 15 ∨ j = 16 ∨ j = 17 ∨ j = 18)) ∨ (98 = 89 ∧ j < 100) ∨ (90 ≤ 98 ∧ 98 < 98)) from by omega)) (by omega)
  have mσ6 : mI σ6 := q7_0
  have sσ6 : SR σ6 := SR_kept sσ2 (fun c j h => hGσ6 c j (show ¬ ((c = 88 ∧ (j = 9 ∨ j = 10 ∨ j = 12 ∨ j = 13 ∨ j = 14 ∨ j = 15 ∨ j = 16 ∨ j = 17 ∨ j = 18)) ∨ (c = 89 ∧ j < 100) ∨ (90 ≤ c ∧ c < 98)) from by omega)) (fun j => hGσ6 104 j (show ¬ ((104 = 88 ∧ (j = 9 ∨ j = 10 ∨ j = 12 ∨ j = 13 ∨ j = 14 ∨ j = 15 ∨ j = 16 ∨ j = 17 ∨ j = 18)) ∨ (104 = 89 ∧ j < 100) ∨ (90 ≤ 104 ∧ 104 < 98)) from by omega)) (fun j => hGσ6 105 j (show ¬ ((105 = 88 ∧ (j = 9 ∨ j = 10 ∨ j = 12 ∨ j = 13 ∨ j = 14 ∨ j = 15 ∨ j = 16 ∨ j = 17 ∨ j = 18)) ∨ (105 = 89 ∧ j < 100) ∨ (90 ≤ 105 ∧ 105 < 98)) from by omega))
  have st9 := ST_text (P := pwB (parse (fX τ)).1) (y := (parse (fX τ)).1) stτ hIσ6 (q3_2.trans q7_3.symm) q3_8 q7_9 (fun z => by rcases q3_3 with q | q; exact ⟨q.2.1, q.2.2⟩; exact absurd z q.1) (fun c j h => hGσ2 c j (show ¬ ((c = 10 ∧ (j = 3 ∨ j = 4 ∨ j = 5 ∨ j = 6 ∨ j = 7 ∨ j = 8 ∨ j = 10 ∨ j = 11 ∨ j = 12 ∨ j = 13)) ∨ (12 ≤ c ∧ c < 14) ∨ (14 ≤ c ∧ c < 23) ∨ (1 ≤ c ∧ c < 10) ∨ (23 ≤ c ∧ c < 31) ∨ (c = 31 ∧ (j = 6)) ∨ (c = 39 ∧ (j = 6)) ∨ (c = 60 ∧ (j = 6 ∨ j = 7)) ∨ (c = 71 ∧ (j = 1)) ∨ (c = 76 ∧ (j = 1)) ∨ (c = 0 ∧ (j = 13))) from by omega)) (fun c j h => hGσ6 c j (show ¬ ((c = 88 ∧ (j = 9 ∨ j = 10 ∨ j = 12 ∨ j = 13 ∨ j = 14 ∨ j = 15 ∨ j = 16 ∨ j = 17 ∨ j = 18)) ∨ (c = 89 ∧ j < 100) ∨ (90 ≤ c ∧ c < 98)) from by omega))
  clear q3_8 q7_9
  refine j_pop (pc := 285) dL_law_285 rfl ?_
  refine j_goto (pc := 286) (tgt := 1352) dL_law_286 rfl ?_
  have y23 : σ6 10 10 = σ2 10 10 := (hGσ6 10 10 (show ¬ ((10 = 88 ∧ (10 = 9 ∨ 10 = 10 ∨ 10 = 12 ∨ 10 = 13 ∨ 10 = 14 ∨ 10 = 15 ∨ 10 = 16 ∨ 10 = 17 ∨ 10 = 18)) ∨ (10 = 89 ∧ 10 < 100) ∨ (90 ≤ 10 ∧ 10 < 98)) from by omega))
  have y24 : σ6 0 13 = σ2 0 13 := (hGσ6 0 13 (show ¬ ((0 = 88 ∧ (13 = 9 ∨ 13 = 10 ∨ 13 = 12 ∨ 13 = 13 ∨ 13 = 14 ∨ 13 = 15 ∨ 13 = 16 ∨ 13 = 17 ∨ 13 = 18)) ∨ (0 = 89 ∧ 13 < 100) ∨ (90 ≤ 0 ∧ 0 < 98)) from by omega))
  have f25 : (-2147483648 : Int) ≤ σ2 0 13 ∧ σ2 0 13 ≤ 2147483647 := hIσ2 0 13
  have y26 : σ6 31 6 = σ2 31 6 := (hGσ6 31 6 (show ¬ ((31 = 88 ∧ (6 = 9 ∨ 6 = 10 ∨ 6 = 12 ∨ 6 = 13 ∨ 6 = 14 ∨ 6 = 15 ∨ 6 = 16 ∨ 6 = 17 ∨ 6 = 18)) ∨ (31 = 89 ∧ 6 < 100) ∨ (90 ≤ 31 ∧ 31 < 98)) from by omega))
  have f27 : (0 : Int) ≤ σ2 31 6 ∧ σ2 31 6 ≤ 1 := hIσ2 31 6
  have y28 : σ6 39 6 = σ2 39 6 := (hGσ6 39 6 (show ¬ ((39 = 88 ∧ (6 = 9 ∨ 6 = 10 ∨ 6 = 12 ∨ 6 = 13 ∨ 6 = 14 ∨ 6 = 15 ∨ 6 = 16 ∨ 6 = 17 ∨ 6 = 18)) ∨ (39 = 89 ∧ 6 < 100) ∨ (90 ≤ 39 ∧ 39 < 98)) from by omega))
  have f29 : (0 : Int) ≤ σ2 39 6 ∧ σ2 39 6 ≤ 1 := hIσ2 39 6
  have f9 : σ6 0 13 = σ6 88 17 := by omega
  obtain ⟨t0, t1, t2, t3, t4, t5, t6, t7, t8, t9, t10, t11, t12, t13, t14, t15, t16, t17⟩ := tτ
  have y30 : σ6 29 0 = σ2 29 0 := (hGσ6 29 0 (show ¬ ((29 = 88 ∧ (0 = 9 ∨ 0 = 10 ∨ 0 = 12 ∨ 0 = 13 ∨ 0 = 14 ∨ 0 = 15 ∨ 0 = 16 ∨ 0 = 17 ∨ 0 = 18)) ∨ (29 = 89 ∧ 0 < 100) ∨ (90 ≤ 29 ∧ 29 < 98)) from by omega))
  have f31 : (0 : Int) ≤ σ2 29 0 ∧ σ2 29 0 ≤ 999 := hIσ2 29 0
  have y32 : σ6 30 0 = σ2 30 0 := (hGσ6 30 0 (show ¬ ((30 = 88 ∧ (0 = 9 ∨ 0 = 10 ∨ 0 = 12 ∨ 0 = 13 ∨ 0 = 14 ∨ 0 = 15 ∨ 0 = 16 ∨ 0 = 17 ∨ 0 = 18)) ∨ (30 = 89 ∧ 0 < 100) ∨ (90 ≤ 30 ∧ 30 < 98)) from by omega))
  have f33 : (-2147483648 : Int) ≤ σ2 30 0 ∧ σ2 30 0 ≤ 2147483647 := hIσ2 30 0
  have y34 : σ6 29 1 = σ2 29 1 := (hGσ6 29 1 (show ¬ ((29 = 88 ∧ (1 = 9 ∨ 1 = 10 ∨ 1 = 12 ∨ 1 = 13 ∨ 1 = 14 ∨ 1 = 15 ∨ 1 = 16 ∨ 1 = 17 ∨ 1 = 18)) ∨ (29 = 89 ∧ 1 < 100) ∨ (90 ≤ 29 ∧ 29 < 98)) from by omega))
  have f35 : (0 : Int) ≤ σ2 29 1 ∧ σ2 29 1 ≤ 999 := hIσ2 29 1
  have y36 : σ6 30 1 = σ2 30 1 := (hGσ6 30 1 (show ¬ ((30 = 88 ∧ (1 = 9 ∨ 1 = 10 ∨ 1 = 12 ∨ 1 = 13 ∨ 1 = 14 ∨ 1 = 15 ∨ 1 = 16 ∨ 1 = 17 ∨ 1 = 18)) ∨ (30 = 89 ∧ 1 < 100) ∨ (90 ≤ 30 ∧ 30 < 98)) from by omega))
  have f37 : (-2147483648 : Int) ≤ σ2 30 1 ∧ σ2 30 1 ≤ 2147483647 := hIσ2 30 1
  have y38 : σ6 37 0 = τ 37 0 := ((hGσ6 37 0 (show ¬ ((37 = 88 ∧ (0 = 9 ∨ 0 = 10 ∨ 0 = 12 ∨ 0 = 13 ∨ 0 = 14 ∨ 0 = 15 ∨ 0 = 16 ∨ 0 = 17 ∨ 0 = 18)) ∨ (37 = 89 ∧ 0 < 100) ∨ (90 ≤ 37 ∧ 37 < 98)) from by omega))).trans (hGσ2 37 0 (show ¬ ((37 = 10 ∧ (0 = 3 ∨ 0 = 4 ∨ 0 = 5 ∨ 0 = 6 ∨ 0 = 7 ∨ 0 = 8 ∨ 0 = 10 ∨ 0 = 11 ∨ 0 = 12 ∨ 0 = 13)) ∨ (12 ≤ 37 ∧ 37 < 14) ∨ (14 ≤ 37 ∧ 37 < 23) ∨ (1 ≤ 37 ∧ 37 < 10) ∨ (23 ≤ 37 ∧ 37 < 31) ∨ (37 = 31 ∧ (0 = 6)) ∨ (37 = 39 ∧ (0 = 6)) ∨ (37 = 60 ∧ (0 = 6 ∨ 0 = 7)) ∨ (37 = 71 ∧ (0 = 1)) ∨ (37 = 76 ∧ (0 = 1)) ∨ (37 = 0 ∧ (0 = 13))) from by omega))
  have f39 : (0 : Int) ≤ τ 37 0 ∧ τ 37 0 ≤ 999 := hIτ 37 0
  have y40 : σ6 38 0 = τ 38 0 := ((hGσ6 38 0 (show ¬ ((38 = 88 ∧ (0 = 9 ∨ 0 = 10 ∨ 0 = 12 ∨ 0 = 13 ∨ 0 = 14 ∨ 0 = 15 ∨ 0 = 16 ∨ 0 = 17 ∨ 0 = 18)) ∨ (38 = 89 ∧ 0 < 100) ∨ (90 ≤ 38 ∧ 38 < 98)) from by omega))).trans (hGσ2 38 0 (show ¬ ((38 = 10 ∧ (0 = 3 ∨ 0 = 4 ∨ 0 = 5 ∨ 0 = 6 ∨ 0 = 7 ∨ 0 = 8 ∨ 0 = 10 ∨ 0 = 11 ∨ 0 = 12 ∨ 0 = 13)) ∨ (12 ≤ 38 ∧ 38 < 14) ∨ (14 ≤ 38 ∧ 38 < 23) ∨ (1 ≤ 38 ∧ 38 < 10) ∨ (23 ≤ 38 ∧ 38 < 31) ∨ (38 = 31 ∧ (0 = 6)) ∨ (38 = 39 ∧ (0 = 6)) ∨ (38 = 60 ∧ (0 = 6 ∨ 0 = 7)) ∨ (38 = 71 ∧ (0 = 1)) ∨ (38 = 76 ∧ (0 = 1)) ∨ (38 = 0 ∧ (0 = 13))) from by omega))
  have f41 : (-2147483648 : Int) ≤ τ 38 0 ∧ τ 38 0 ≤ 2147483647 := hIτ 38 0
  have y42 : σ6 37 1 = τ 37 1 := ((hGσ6 37 1 (show ¬ ((37 = 88 ∧ (1 = 9 ∨ 1 = 10 ∨ 1 = 12 ∨ 1 = 13 ∨ 1 = 14 ∨ 1 = 15 ∨ 1 = 16 ∨ 1 = 17 ∨ 1 = 18)) ∨ (37 = 89 ∧ 1 < 100) ∨ (90 ≤ 37 ∧ 37 < 98)) from by omega))).trans (hGσ2 37 1 (show ¬ ((37 = 10 ∧ (1 = 3 ∨ 1 = 4 ∨ 1 = 5 ∨ 1 = 6 ∨ 1 = 7 ∨ 1 = 8 ∨ 1 = 10 ∨ 1 = 11 ∨ 1 = 12 ∨ 1 = 13)) ∨ (12 ≤ 37 ∧ 37 < 14) ∨ (14 ≤ 37 ∧ 37 < 23) ∨ (1 ≤ 37 ∧ 37 < 10) ∨ (23 ≤ 37 ∧ 37 < 31) ∨ (37 = 31 ∧ (1 = 6)) ∨ (37 = 39 ∧ (1 = 6)) ∨ (37 = 60 ∧ (1 = 6 ∨ 1 = 7)) ∨ (37 = 71 ∧ (1 = 1)) ∨ (37 = 76 ∧ (1 = 1)) ∨ (37 = 0 ∧ (1 = 13))) from by omega))
  have f43 : (0 : Int) ≤ τ 37 1 ∧ τ 37 1 ≤ 999 := hIτ 37 1
  have y44 : σ6 38 1 = τ 38 1 := ((hGσ6 38 1 (show ¬ ((38 = 88 ∧ (1 = 9 ∨ 1 = 10 ∨ 1 = 12 ∨ 1 = 13 ∨ 1 = 14 ∨ 1 = 15 ∨ 1 = 16 ∨ 1 = 17 ∨ 1 = 18)) ∨ (38 = 89 ∧ 1 < 100) ∨ (90 ≤ 38 ∧ 38 < 98)) from by omega))).trans (hGσ2 38 1 (show ¬ ((38 = 10 ∧ (1 = 3 ∨ 1 = 4 ∨ 1 = 5 ∨ 1 = 6 ∨ 1 = 7 ∨ 1 = 8 ∨ 1 = 10 ∨ 1 = 11 ∨ 1 = 12 ∨ 1 = 13)) ∨ (12 ≤ 38 ∧ 38 < 14) ∨ (14 ≤ 38 ∧ 38 < 23) ∨ (1 ≤ 38 ∧ 38 < 10) ∨ (23 ≤ 38 ∧ 38 < 31) ∨ (38 = 31 ∧ (1 = 6)) ∨ (38 = 39 ∧ (1 = 6)) ∨ (38 = 60 ∧ (1 = 6 ∨ 1 = 7)) ∨ (38 = 71 ∧ (1 = 1)) ∨ (38 = 76 ∧ (1 = 1)) ∨ (38 = 0 ∧ (1 = 13))) from by omega))
  have f45 : (-2147483648 : Int) ≤ τ 38 1 ∧ τ 38 1 ≤ 2147483647 := hIτ 38 1
  have y46 : σ6 45 0 = τ 45 0 := ((hGσ6 45 0 (show ¬ ((45 = 88 ∧ (0 = 9 ∨ 0 = 10 ∨ 0 = 12 ∨ 0 = 13 ∨ 0 = 14 ∨ 0 = 15 ∨ 0 = 16 ∨ 0 = 17 ∨ 0 = 18)) ∨ (45 = 89 ∧ 0 < 100) ∨ (90 ≤ 45 ∧ 45 < 98)) from by omega))).trans (hGσ2 45 0 (show ¬ ((45 = 10 ∧ (0 = 3 ∨ 0 = 4 ∨ 0 = 5 ∨ 0 = 6 ∨ 0 = 7 ∨ 0 = 8 ∨ 0 = 10 ∨ 0 = 11 ∨ 0 = 12 ∨ 0 = 13)) ∨ (12 ≤ 45 ∧ 45 < 14) ∨ (14 ≤ 45 ∧ 45 < 23) ∨ (1 ≤ 45 ∧ 45 < 10) ∨ (23 ≤ 45 ∧ 45 < 31) ∨ (45 = 31 ∧ (0 = 6)) ∨ (45 = 39 ∧ (0 = 6)) ∨ (45 = 60 ∧ (0 = 6 ∨ 0 = 7)) ∨ (45 = 71 ∧ (0 = 1)) ∨ (45 = 76 ∧ (0 = 1)) ∨ (45 = 0 ∧ (0 = 13))) from by omega))
  have f47 : (0 : Int) ≤ τ 45 0 ∧ τ 45 0 ≤ 999 := hIτ 45 0
  have y48 : σ6 46 0 = τ 46 0 := ((hGσ6 46 0 (show ¬ ((46 = 88 ∧ (0 = 9 ∨ 0 = 10 ∨ 0 = 12 ∨ 0 = 13 ∨ 0 = 14 ∨ 0 = 15 ∨ 0 = 16 ∨ 0 = 17 ∨ 0 = 18)) ∨ (46 = 89 ∧ 0 < 100) ∨ (90 ≤ 46 ∧ 46 < 98)) from by omega))).trans (hGσ2 46 0 (show ¬ ((46 = 10 ∧ (0 = 3 ∨ 0 = 4 ∨ 0 = 5 ∨ 0 = 6 ∨ 0 = 7 ∨ 0 = 8 ∨ 0 = 10 ∨ 0 = 11 ∨ 0 = 12 ∨ 0 = 13)) ∨ (12 ≤ 46 ∧ 46 < 14) ∨ (14 ≤ 46 ∧ 46 < 23) ∨ (1 ≤ 46 ∧ 46 < 10) ∨ (23 ≤ 46 ∧ 46 < 31) ∨ (46 = 31 ∧ (0 = 6)) ∨ (46 = 39 ∧ (0 = 6)) ∨ (46 = 60 ∧ (0 = 6 ∨ 0 = 7)) ∨ (46 = 71 ∧ (0 = 1)) ∨ (46 = 76 ∧ (0 = 1)) ∨ (46 = 0 ∧ (0 = 13))) from by omega))
  have f49 : (-2147483648 : Int) ≤ τ 46 0 ∧ τ 46 0 ≤ 2147483647 := hIτ 46 0
  have y50 : σ6 45 1 = τ 45 1 := ((hGσ6 45 1 (show ¬ ((45 = 88 ∧ (1 = 9 ∨ 1 = 10 ∨ 1 = 12 ∨ 1 = 13 ∨ 1 = 14 ∨ 1 = 15 ∨ 1 = 16 ∨ 1 = 17 ∨ 1 = 18)) ∨ (45 = 89 ∧ 1 < 100) ∨ (90 ≤ 45 ∧ 45 < 98)) from by omega))).trans (hGσ2 45 1 (show ¬ ((45 = 10 ∧ (1 = 3 ∨ 1 = 4 ∨ 1 = 5 ∨ 1 = 6 ∨ 1 = 7 ∨ 1 = 8 ∨ 1 = 10 ∨ 1 = 11 ∨ 1 = 12 ∨ 1 = 13)) ∨ (12 ≤ 45 ∧ 45 < 14) ∨ (14 ≤ 45 ∧ 45 < 23) ∨ (1 ≤ 45 ∧ 45 < 10) ∨ (23 ≤ 45 ∧ 45 < 31) ∨ (45 = 31 ∧ (1 = 6)) ∨ (45 = 39 ∧ (1 = 6)) ∨ (45 = 60 ∧ (1 = 6 ∨ 1 = 7)) ∨ (45 = 71 ∧ (1 = 1)) ∨ (45 = 76 ∧ (1 = 1)) ∨ (45 = 0 ∧ (1 = 13))) from by omega))
  have f51 : (0 : Int) ≤ τ 45 1 ∧ τ 45 1 ≤ 999 := hIτ 45 1
  have y52 : σ6 46 1 = τ 46 1 := ((hGσ6 46 1 (show ¬ ((46 = 88 ∧ (1 = 9 ∨ 1 = 10 ∨ 1 = 12 ∨ 1 = 13 ∨ 1 = 14 ∨ 1 = 15 ∨ 1 = 16 ∨ 1 = 17 ∨ 1 = 18)) ∨ (46 = 89 ∧ 1 < 100) ∨ (90 ≤ 46 ∧ 46 < 98)) from by omega))).trans (hGσ2 46 1 (show ¬ ((46 = 10 ∧ (1 = 3 ∨ 1 = 4 ∨ 1 = 5 ∨ 1 = 6 ∨ 1 = 7 ∨ 1 = 8 ∨ 1 = 10 ∨ 1 = 11 ∨ 1 = 12 ∨ 1 = 13)) ∨ (12 ≤ 46 ∧ 46 < 14) ∨ (14 ≤ 46 ∧ 46 < 23) ∨ (1 ≤ 46 ∧ 46 < 10) ∨ (23 ≤ 46 ∧ 46 < 31) ∨ (46 = 31 ∧ (1 = 6)) ∨ (46 = 39 ∧ (1 = 6)) ∨ (46 = 60 ∧ (1 = 6 ∨ 1 = 7)) ∨ (46 = 71 ∧ (1 = 1)) ∨ (46 = 76 ∧ (1 = 1)) ∨ (46 = 0 ∧ (1 = 13))) from by omega))
  have f53 : (-2147483648 : Int) ≤ τ 46 1 ∧ τ 46 1 ≤ 2147483647 := hIτ 46 1
  have u193 : σ6 89 193 = τ 89 193 := ((hGσ6 89 193 (show ¬ ((89 = 88 ∧ (193 = 9 ∨ 193 = 10 ∨ 193 = 12 ∨ 193 = 13 ∨ 193 = 14 ∨ 193 = 15 ∨ 193 = 16 ∨ 193 = 17 ∨ 193 = 18)) ∨ (89 = 89 ∧ 193 < 100) ∨ (90 ≤ 89 ∧ 89 < 98)) from by omega))).trans (hGσ2 89 193 (show ¬ ((89 = 10 ∧ (193 = 3 ∨ 193 = 4 ∨ 193 = 5 ∨ 193 = 6 ∨ 193 = 7 ∨ 193 = 8 ∨ 193 = 10 ∨ 193 = 11 ∨ 193 = 12 ∨ 193 = 13)) ∨ (12 ≤ 89 ∧ 89 < 14) ∨ (14 ≤ 89 ∧ 89 < 23) ∨ (1 ≤ 89 ∧ 89 < 10) ∨ (23 ≤ 89 ∧ 89 < 31) ∨ (89 = 31 ∧ (193 = 6)) ∨ (89 = 39 ∧ (193 = 6)) ∨ (89 = 60 ∧ (193 = 6 ∨ 193 = 7)) ∨ (89 = 71 ∧ (193 = 1)) ∨ (89 = 76 ∧ (193 = 1)) ∨ (89 = 0 ∧ (193 = 13))) from by omega))
  have u194 : σ6 89 194 = τ 89 194 := ((hGσ6 89 194 (show ¬ ((89 = 88 ∧ (194 = 9 ∨ 194 = 10 ∨ 194 = 12 ∨ 194 = 13 ∨ 194 = 14 ∨ 194 = 15 ∨ 194 = 16 ∨ 194 = 17 ∨ 194 = 18)) ∨ (89 = 89 ∧ 194 < 100) ∨ (90 ≤ 89 ∧ 89 < 98)) from by omega))).trans (hGσ2 89 194 (show ¬ ((89 = 10 ∧ (194 = 3 ∨ 194 = 4 ∨ 194 = 5 ∨ 194 = 6 ∨ 194 = 7 ∨ 194 = 8 ∨ 194 = 10 ∨ 194 = 11 ∨ 194 = 12 ∨ 194 = 13)) ∨ (12 ≤ 89 ∧ 89 < 14) ∨ (14 ≤ 89 ∧ 89 < 23) ∨ (1 ≤ 89 ∧ 89 < 10) ∨ (23 ≤ 89 ∧ 89 < 31) ∨ (89 = 31 ∧ (194 = 6)) ∨ (89 = 39 ∧ (194 = 6)) ∨ (89 = 60 ∧ (194 = 6 ∨ 194 = 7)) ∨ (89 = 71 ∧ (194 = 1)) ∨ (89 = 76 ∧ (194 = 1)) ∨ (89 = 0 ∧ (194 = 13))) from by omega))
  have u195 : σ6 89 195 = τ 89 195 := ((hGσ6 89 195 (show ¬ ((89 = 88 ∧ (195 = 9 ∨ 195 = 10 ∨ 195 = 12 ∨ 195 = 13 ∨ 195 = 14 ∨ 195 = 15 ∨ 195 = 16 ∨ 195 = 17 ∨ 195 = 18)) ∨ (89 = 89 ∧ 195 < 100) ∨ (90 ≤ 89 ∧ 89 < 98)) from by omega))).trans (hGσ2 89 195 (show ¬ ((89 = 10 ∧ (195 = 3 ∨ 195 = 4 ∨ 195 = 5 ∨ 195 = 6 ∨ 195 = 7 ∨ 195 = 8 ∨ 195 = 10 ∨ 195 = 11 ∨ 195 = 12 ∨ 195 = 13)) ∨ (12 ≤ 89 ∧ 89 < 14) ∨ (14 ≤ 89 ∧ 89 < 23) ∨ (1 ≤ 89 ∧ 89 < 10) ∨ (23 ≤ 89 ∧ 89 < 31) ∨ (89 = 31 ∧ (195 = 6)) ∨ (89 = 39 ∧ (195 = 6)) ∨ (89 = 60 ∧ (195 = 6 ∨ 195 = 7)) ∨ (89 = 71 ∧ (195 = 1)) ∨ (89 = 76 ∧ (195 = 1)) ∨ (89 = 0 ∧ (195 = 13))) from by omega))
  have u196 : σ6 89 196 = τ 89 196 := ((hGσ6 89 196 (show ¬ ((89 = 88 ∧ (196 = 9 ∨ 196 = 10 ∨ 196 = 12 ∨ 196 = 13 ∨ 196 = 14 ∨ 196 = 15 ∨ 196 = 16 ∨ 196 = 17 ∨ 196 = 18)) ∨ (89 = 89 ∧ 196 < 100) ∨ (90 ≤ 89 ∧ 89 < 98)) from by omega))).trans (hGσ2 89 196 (show ¬ ((89 = 10 ∧ (196 = 3 ∨ 196 = 4 ∨ 196 = 5 ∨ 196 = 6 ∨ 196 = 7 ∨ 196 = 8 ∨ 196 = 10 ∨ 196 = 11 ∨ 196 = 12 ∨ 196 = 13)) ∨ (12 ≤ 89 ∧ 89 < 14) ∨ (14 ≤ 89 ∧ 89 < 23) ∨ (1 ≤ 89 ∧ 89 < 10) ∨ (23 ≤ 89 ∧ 89 < 31) ∨ (89 = 31 ∧ (196 = 6)) ∨ (89 = 39 ∧ (196 = 6)) ∨ (89 = 60 ∧ (196 = 6 ∨ 196 = 7)) ∨ (89 = 71 ∧ (196 = 1)) ∨ (89 = 76 ∧ (196 = 1)) ∨ (89 = 0 ∧ (196 = 13))) from by omega))
  have u293 : σ6 89 293 = τ 89 293 := ((hGσ6 89 293 (show ¬ ((89 = 88 ∧ (293 = 9 ∨ 293 = 10 ∨ 293 = 12 ∨ 293 = 13 ∨ 293 = 14 ∨ 293 = 15 ∨ 293 = 16 ∨ 293 = 17 ∨ 293 = 18)) ∨ (89 = 89 ∧ 293 < 100) ∨ (90 ≤ 89 ∧ 89 < 98)) from by omega))).trans (hGσ2 89 293 (show ¬ ((89 = 10 ∧ (293 = 3 ∨ 293 = 4 ∨ 293 = 5 ∨ 293 = 6 ∨ 293 = 7 ∨ 293 = 8 ∨ 293 = 10 ∨ 293 = 11 ∨ 293 = 12 ∨ 293 = 13)) ∨ (12 ≤ 89 ∧ 89 < 14) ∨ (14 ≤ 89 ∧ 89 < 23) ∨ (1 ≤ 89 ∧ 89 < 10) ∨ (23 ≤ 89 ∧ 89 < 31) ∨ (89 = 31 ∧ (293 = 6)) ∨ (89 = 39 ∧ (293 = 6)) ∨ (89 = 60 ∧ (293 = 6 ∨ 293 = 7)) ∨ (89 = 71 ∧ (293 = 1)) ∨ (89 = 76 ∧ (293 = 1)) ∨ (89 = 0 ∧ (293 = 13))) from by omega))
  have u294 : σ6 89 294 = τ 89 294 := ((hGσ6 89 294 (show ¬ ((89 = 88 ∧ (294 = 9 ∨ 294 = 10 ∨ 294 = 12 ∨ 294 = 13 ∨ 294 = 14 ∨ 294 = 15 ∨ 294 = 16 ∨ 294 = 17 ∨ 294 = 18)) ∨ (89 = 89 ∧ 294 < 100) ∨ (90 ≤ 89 ∧ 89 < 98)) from by omega))).trans (hGσ2 89 294 (show ¬ ((89 = 10 ∧ (294 = 3 ∨ 294 = 4 ∨ 294 = 5 ∨ 294 = 6 ∨ 294 = 7 ∨ 294 = 8 ∨ 294 = 10 ∨ 294 = 11 ∨ 294 = 12 ∨ 294 = 13)) ∨ (12 ≤ 89 ∧ 89 < 14) ∨ (14 ≤ 89 ∧ 89 < 23) ∨ (1 ≤ 89 ∧ 89 < 10) ∨ (23 ≤ 89 ∧ 89 < 31) ∨ (89 = 31 ∧ (294 = 6)) ∨ (89 = 39 ∧ (294 = 6)) ∨ (89 = 60 ∧ (294 = 6 ∨ 294 = 7)) ∨ (89 = 71 ∧ (294 = 1)) ∨ (89 = 76 ∧ (294 = 1)) ∨ (89 = 0 ∧ (294 = 13))) from by omega))
  have u295 : σ6 89 295 = τ 89 295 := ((hGσ6 89 295 (show ¬ ((89 = 88 ∧ (295 = 9 ∨ 295 = 10 ∨ 295 = 12 ∨ 295 = 13 ∨ 295 = 14 ∨ 295 = 15 ∨ 295 = 16 ∨ 295 = 17 ∨ 295 = 18)) ∨ (89 = 89 ∧ 295 < 100) ∨ (90 ≤ 89 ∧ 89 < 98)) from by omega))).trans (hGσ2 89 295 (show ¬ ((89 = 10 ∧ (295 = 3 ∨ 295 = 4 ∨ 295 = 5 ∨ 295 = 6 ∨ 295 = 7 ∨ 295 = 8 ∨ 295 = 10 ∨ 295 = 11 ∨ 295 = 12 ∨ 295 = 13)) ∨ (12 ≤ 89 ∧ 89 < 14) ∨ (14 ≤ 89 ∧ 89 < 23) ∨ (1 ≤ 89 ∧ 89 < 10) ∨ (23 ≤ 89 ∧ 89 < 31) ∨ (89 = 31 ∧ (295 = 6)) ∨ (89 = 39 ∧ (295 = 6)) ∨ (89 = 60 ∧ (295 = 6 ∨ 295 = 7)) ∨ (89 = 71 ∧ (295 = 1)) ∨ (89 = 76 ∧ (295 = 1)) ∨ (89 = 0 ∧ (295 = 13))) from by omega))
  have u296 : σ6 89 296 = τ 89 296 := ((hGσ6 89 296 (show ¬ ((89 = 88 ∧ (296 = 9 ∨ 296 = 10 ∨ 296 = 12 ∨ 296 = 13 ∨ 296 = 14 ∨ 296 = 15 ∨ 296 = 16 ∨ 296 = 17 ∨ 296 = 18)) ∨ (89 = 89 ∧ 296 < 100) ∨ (90 ≤ 89 ∧ 89 < 98)) from by omega))).trans (hGσ2 89 296 (show ¬ ((89 = 10 ∧ (296 = 3 ∨ 296 = 4 ∨ 296 = 5 ∨ 296 = 6 ∨ 296 = 7 ∨ 296 = 8 ∨ 296 = 10 ∨ 296 = 11 ∨ 296 = 12 ∨ 296 = 13)) ∨ (12 ≤ 89 ∧ 89 < 14) ∨ (14 ≤ 89 ∧ 89 < 23) ∨ (1 ≤ 89 ∧ 89 < 10) ∨ (23 ≤ 89 ∧ 89 < 31) ∨ (89 = 31 ∧ (296 = 6)) ∨ (89 = 39 ∧ (296 = 6)) ∨ (89 = 60 ∧ (296 = 6 ∨ 296 = 7)) ∨ (89 = 71 ∧ (296 = 1)) ∨ (89 = 76 ∧ (296 = 1)) ∨ (89 = 0 ∧ (296 = 13))) from by omega))
  exact K σ6 hIσ6 ⟨mσ6, by omega, sσ6, bσ6, by omega, by omega, by omega, ⟨by clear t1 t2 t3 t5 t6 t7 t9 t10 t11 t12 t13 t14 t15 t16 t17 q3_0 q3_2 q3_3 q3_5 q3_6 q3_7 q7_1 q7_3 q7_4 q7_6 q7_7 q7_8; omega, by clear t0 t2 t3 t4 t6 t7 t8 t10 t11 t12 t13 t14 t15 t16 t17 q3_0 q3_2 q3_3 q3_4 q3_6 q3_7 q7_1 q7_3 q7_4 q7_5 q7_7 q7_8; omega, by clear t0 t1 t3 t4 t5 t7 t8 t9 t11 t12 t13 t14 t15 t16 t17 q3_0 q3_2 q3_3 q3_4 q3_5 q3_7 q7_1 q7_3 q7_4 q7_5 q7_6 q7_8; omega, by clear t0 t1 t2 t4 t5 t6 t8 t9 t10 t12 t13 t14 t15 t16 t17 q3_0 q3_2 q3_3 q3_4 q3_5 q3_6 q7_1 q7_3 q7_4 q7_5 q7_6 q7_7; omega, by clear t1 t2 t3 t5 t6 t7 t9 t10 t11 t12 t13 t14 t15 t16 t17 q3_0 q3_2 q3_3 q3_4 q3_5 q3_6 q3_7 q7_1 q7_3 q7_4 q7_5 q7_6 q7_7 q7_8; omega, by clear t0 t2 t3 t4 t6 t7 t8 t10 t11 t12 t13 t14 t15 t16 t17 q3_0 q3_2 q3_3 q3_4 q3_5 q3_6 q3_7 q7_1 q7_3 q7_4 q7_5 q7_6 q7_7 q7_8; omega, by clear t0 t1 t3 t4 t5 t7 t8 t9 t11 t12 t13 t14 t15 t16 t17 q3_0 q3_2 q3_3 q3_4 q3_5 q3_6 q3_7 q7_1 q7_3 q7_4 q7_5 q7_6 q7_7 q7_8; omega, by clear t0 t1 t2 t4 t5 t6 t8 t9 t10 t12 t13 t14 t15 t16 t17 q3_0 q3_2 q3_3 q3_4 q3_5 q3_6 q3_7 q7_1 q7_3 q7_4 q7_5 q7_6 q7_7 q7_8; omega, by clear t1 t2 t3 t5 t6 t7 t9 t10 t11 t12 t13 t14 t15 t16 t17 q3_0 q3_2 q3_3 q3_4 q3_5 q3_6 q3_7 q7_1 q7_3 q7_4 q7_5 q7_6 q7_7 q7_8; omega, by clear t0 t2 t3 t4 t6 t7 t8 t10 t11 t12 t13 t14 t15 t16 t17 q3_0 q3_2 q3_3 q3_4 q3_5 q3_6 q3_7 q7_1 q7_3 q7_4 q7_5 q7_6 q7_7 q7_8; omega, by clear t0 t1 t3 t4 t5 t7 t8 t9 t11 t12 t13 t14 t15 t16 t17 q3_0 q3_2 q3_3 q3_4 q3_5 q3_6 q3_7 q7_1 q7_3 q7_4 q7_5 q7_6 q7_7 q7_8; omega, by clear t0 t1 t2 t4 t5 t6 t8 t9 t10 t12 t13 t14 t15 t16 t17 q3_0 q3_2 q3_3 q3_4 q3_5 q3_6 q3_7 q7_1 q7_3 q7_4 q7_5 q7_6 q7_7 q7_8; omega, by clear t2 t3 t6 t7 t10 t11 t13 t15 t17 q3_0 q3_2 q3_3 q3_6 q3_7 q7_1 q7_3 q7_4 q7_7 q7_8; omega, by clear t0 t1 t4 t5 t8 t9 t12 t14 t16 q3_0 q3_2 q3_3 q3_4 q3_5 q7_1 q7_3 q7_4 q7_5 q7_6; omega, by clear t2 t3 t6 t7 t10 t11 t13 t15 t17 q3_0 q3_2 q3_3 q3_4 q3_5 q3_6 q3_7 q7_1 q7_3 q7_4 q7_5 q7_6 q7_7 q7_8; omega, by clear t0 t1 t4 t5 t8 t9 t12 t14 t16 q3_0 q3_2 q3_3 q3_4 q3_5 q3_6 q3_7 q7_1 q7_3 q7_4 q7_5 q7_6 q7_7 q7_8; omega, by clear t2 t3 t6 t7 t10 t11 t13 t15 t17 q3_0 q3_2 q3_3 q3_4 q3_5 q3_6 q3_7 q7_1 q7_3 q7_4 q7_5 q7_6 q7_7 q7_8; omega, by clear t0 t1 t4 t5 t8 t9 t12 t14 t16 q3_0 q3_2 q3_3 q3_4 q3_5 q3_6 q3_7 q7_1 q7_3 q7_4 q7_5 q7_6 q7_7 q7_8; omega⟩, st9⟩
set_option maxHeartbeats 4000000 in
set_option maxRecDepth 100000 in
theorem w_case_3 {G : tw_G} (hX : tw_isX G) (hM : tw_isM G) {E : List Frame → Array Value → State → State → Prop} (hN : (gN G : Int) ≤ 2560) (i : Int) (hi : 0 ≤ i ∧ i + 5 ≤ (gN G : Int)) (τ : tw_M) (hIτ : tw_I τ) (hL : tw_LI τ) (K : ∀ τ' : tw_M, tw_I τ' → tw_LI τ' → tw_J G tw_ML E 1352 [(0, vR 300), (1, vR 0), (2, vR 88), (3, vI i)] [] τ') : tw_J G tw_ML E 289 [(0, vR 300), (1, vR 0), (2, vR 88), (3, vI i)] [] τ := by
  obtain ⟨mτ, zτ, sτ, bτ, fτ, kτ0, kτ1, tτ, stτ⟩ := hL
  have g9 : (0 : Int) ≤ τ 10 10 ∧ τ 10 10 ≤ 400 := hIτ 10 10
  obtain ⟨v1, ev1⟩ : ∃ v : Int, v = (gxs G (i + 1).toNat).toInt := ⟨_, rfl⟩
  have hv1 : (-2147483648 : Int) ≤ v1 ∧ v1 ≤ 2147483647 := by rw [ev1]; exact i32_in _
  obtain ⟨v2, ev2⟩ : ∃ v : Int, v = (gxs G (i + 2).toNat).toInt := ⟨_, rfl⟩
  have hv2 : (-2147483648 : Int) ≤ v2 ∧ v2 ≤ 2147483647 := by rw [ev2]; exact i32_in _
  obtain ⟨v3, ev3⟩ : ∃ v : Int, v = (gxs G (i + 3).toNat).toInt := ⟨_, rfl⟩
  have hv3 : (-2147483648 : Int) ≤ v3 ∧ v3 ≤ 2147483647 := by rw [ev3]; exact i32_in _
  obtain ⟨v4, ev4⟩ : ∃ v : Int, v = (gxs G (i + 4).toNat).toInt := ⟨_, rfl⟩
  have hv4 : (-2147483648 : Int) ≤ v4 ∧ v4 ≤ 2147483647 := by rw [ev4]; exact i32_in _
  refine j_aload_n (pc := 289) dL_law_289 rfl rfl ?_
  refine j_callV (pc := 290) (As := []) (st := []) (c_X11_fault hX τ hIτ) mv_L_30 rfl rfl rfl (a_0 hX) dL_law_290 ⟨Nat.le_of_ble_eq_true rfl, Nat.le_of_ble_eq_true rfl⟩ ⟨Nat.le_of_ble_eq_true rfl, Nat.le_of_ble_eq_true rfl⟩ rfl (Nat.le_of_ble_eq_true rfl) rfl (fun z1 σ2 hz1 => ?_)
  obtain ⟨r4, rfl, hr4, rfl, q3_0⟩ := hz1
  replace q3_0 : r4 = τ 0 13 := q3_0
  refine j_st (st' := [vI r4]) rfl ?_
  refine j_pop (pc := 293) dL_law_293 rfl ?_
  refine j_aload_n (pc := 294) dL_law_294 rfl rfl ?_
  refine j_callV (pc := 295) (As := []) (st := []) (c_X12_fault hM τ hIτ) mv_L_33 rfl rfl rfl (a_88 hM) dL_law_295 ⟨Nat.le_of_ble_eq_true rfl, Nat.le_of_ble_eq_true rfl⟩ ⟨Nat.le_of_ble_eq_true rfl, Nat.le_of_ble_eq_true rfl⟩ rfl (Nat.le_of_ble_eq_true rfl) rfl (fun z5 σ6 hz5 => ?_)
  obtain ⟨r8, rfl, hr8, rfl, q7_0⟩ := hz5
  replace q7_0 : r8 = τ 88 17 := q7_0
  refine j_st (st' := [vI r8]) rfl ?_
  refine j_pop (pc := 298) dL_law_298 rfl ?_
  refine j_goto (pc := 299) (tgt := 1352) dL_law_299 rfl ?_
  exact K τ hIτ ⟨mτ, by omega, sτ, bτ, by omega, by omega, by omega, tτ, stτ⟩
set_option maxHeartbeats 4000000 in
set_option maxRecDepth 100000 in
theorem w_case_4 {G : tw_G} (hX : tw_isX G) (hM : tw_isM G) {E : List Frame → Array Value → State → State → Prop} (hN : (gN G : Int) ≤ 2560) (i : Int) (hi : 0 ≤ i ∧ i + 5 ≤ (gN G : Int)) (τ : tw_M) (hIτ : tw_I τ) (hL : tw_LI τ) (K : ∀ τ' : tw_M, tw_I τ' → tw_LI τ' → tw_J G tw_ML E 1352 [(0, vR 300), (1, vR 0), (2, vR 88), (3, vI i)] [] τ') : tw_J G tw_ML E 302 [(0, vR 300), (1, vR 0), (2, vR 88), (3, vI i)] [] τ := by
  obtain ⟨mτ, zτ, sτ, bτ, fτ, kτ0, kτ1, tτ, stτ⟩ := hL
  have g9 : (0 : Int) ≤ τ 10 10 ∧ τ 10 10 ≤ 400 := hIτ 10 10
  obtain ⟨v1, ev1⟩ : ∃ v : Int, v = (gxs G (i + 1).toNat).toInt := ⟨_, rfl⟩
  have hv1 : (-2147483648 : Int) ≤ v1 ∧ v1 ≤ 2147483647 := by rw [ev1]; exact i32_in _
  obtain ⟨v2, ev2⟩ : ∃ v : Int, v = (gxs G (i + 2).toNat).toInt := ⟨_, rfl⟩
  have hv2 : (-2147483648 : Int) ≤ v2 ∧ v2 ≤ 2147483647 := by rw [ev2]; exact i32_in _
  obtain ⟨v3, ev3⟩ : ∃ v : Int, v = (gxs G (i + 3).toNat).toInt := ⟨_, rfl⟩
  have hv3 : (-2147483648 : Int) ≤ v3 ∧ v3 ≤ 2147483647 := by rw [ev3]; exact i32_in _
  obtain ⟨v4, ev4⟩ : ∃ v : Int, v = (gxs G (i + 4).toNat).toInt := ⟨_, rfl⟩
  have hv4 : (-2147483648 : Int) ≤ v4 ∧ v4 ≤ 2147483647 := by rw [ev4]; exact i32_in _
  refine j_aload_n (pc := 302) dL_law_302 rfl rfl ?_
  refine j_aload_n (pc := 303) dL_law_303 rfl rfl ?_
  refine j_iload_n (pc := 304) dL_law_304 rfl rfl ?_
  refine j_iconst (pc := 305) dL_law_305 ?_
  refine j_iadd (pc := 306) dL_law_306 ?_
  refine j_scrAt (pc := 307) dL_law_307 (by omega) (by omega) (by omega) ?_
  refine j_topV (show _ = v1 from ev1.symm) ?_
  refine j_callV (pc := 308) (As := [vI v1]) (st := []) (c_X11_rule hX v1 ⟨by omega, by omega⟩ τ hIτ) mv_L_34 rfl rfl rfl (a_0 hX) dL_law_308 ⟨Nat.le_of_ble_eq_true rfl, Nat.le_of_ble_eq_true rfl⟩ ⟨Nat.le_of_ble_eq_true rfl, Nat.le_of_ble_eq_true rfl⟩ rfl (Nat.le_of_ble_eq_true rfl) rfl (fun z1 σ2 hz1 => ?_)
  obtain ⟨r4, rfl, hr4, rfl, q3_0⟩ := hz1
  replace q3_0 : (v1 = 5 ∧ r4 = τ 23 4) ∨ (v1 = 6 ∧ r4 = τ 23 5) ∨ ((0 ≤ v1 ∧ v1 < 9 ∧ ¬ v1 = 5 ∧ ¬ v1 = 6) ∧ r4 = τ 2 v1.toNat) ∨ ((11 ≤ v1 ∧ v1 ≤ 20) ∧ r4 = τ 28 (v1 - 10).toNat) ∨ (r4 = -1 ∧ ¬ (0 ≤ v1 ∧ v1 < 9) ∧ ¬ (11 ≤ v1 ∧ v1 ≤ 20)) := q3_0
  refine j_st (st' := [vI r4]) rfl ?_
  refine j_pop (pc := 311) dL_law_311 rfl ?_
  refine j_aload_n (pc := 312) dL_law_312 rfl rfl ?_
  refine j_aload_n (pc := 313) dL_law_313 rfl rfl ?_
  refine j_iload_n (pc := 314) dL_law_314 rfl rfl ?_
  refine j_iconst (pc := 315) dL_law_315 ?_
  refine j_iadd (pc := 316) dL_law_316 ?_
  refine j_scrAt (pc := 317) dL_law_317 (by omega) (by omega) (by omega) ?_
  refine j_topV (show _ = v1 from ev1.symm) ?_
  refine j_callV (pc := 318) (As := [vI v1]) (st := []) (c_X12_rule hM v1 ⟨by omega, by omega⟩ τ hIτ) mv_L_37 rfl rfl rfl (a_88 hM) dL_law_318 ⟨Nat.le_of_ble_eq_true rfl, Nat.le_of_ble_eq_true rfl⟩ ⟨Nat.le_of_ble_eq_true rfl, Nat.le_of_ble_eq_true rfl⟩ rfl (Nat.le_of_ble_eq_true rfl) rfl (fun z5 σ6 hz5 => ?_)
  obtain ⟨r8, rfl, hr8, rfl, q7_0⟩ := hz5
  replace q7_0 : ((0 ≤ v1 ∧ v1 < 9) ∧ r8 = τ 91 v1.toNat) ∨ ((11 ≤ v1 ∧ v1 ≤ 20) ∧ r8 = τ 89 (72 + v1).toNat) ∨ (r8 = -1 ∧ ¬ (0 ≤ v1 ∧ v1 < 9) ∧ ¬ (11 ≤ v1 ∧ v1 ≤ 20)) := q7_0
  refine j_st (st' := [vI r8]) rfl ?_
  have rr9 := ST_rule stτ q3_0 q7_0
  clear q3_0 q7_0
  refine j_pop (pc := 321) dL_law_321 rfl ?_
  refine j_goto (pc := 322) (tgt := 1352) dL_law_322 rfl ?_
  exact K τ hIτ ⟨mτ, by omega, sτ, bτ, by omega, by omega, by omega, tτ, stτ⟩
set_option maxHeartbeats 4000000 in
set_option maxRecDepth 100000 in
theorem w_case_5 {G : tw_G} (hX : tw_isX G) (hM : tw_isM G) {E : List Frame → Array Value → State → State → Prop} (hN : (gN G : Int) ≤ 2560) (i : Int) (hi : 0 ≤ i ∧ i + 5 ≤ (gN G : Int)) (τ : tw_M) (hIτ : tw_I τ) (hL : tw_LI τ) (K : ∀ τ' : tw_M, tw_I τ' → tw_LI τ' → tw_J G tw_ML E 1352 [(0, vR 300), (1, vR 0), (2, vR 88), (3, vI i)] [] τ') : tw_J G tw_ML E 325 [(0, vR 300), (1, vR 0), (2, vR 88), (3, vI i)] [] τ := by
  obtain ⟨mτ, zτ, sτ, bτ, fτ, kτ0, kτ1, tτ, stτ⟩ := hL
  have g9 : (0 : Int) ≤ τ 10 10 ∧ τ 10 10 ≤ 400 := hIτ 10 10
  obtain ⟨v1, ev1⟩ : ∃ v : Int, v = (gxs G (i + 1).toNat).toInt := ⟨_, rfl⟩
  have hv1 : (-2147483648 : Int) ≤ v1 ∧ v1 ≤ 2147483647 := by rw [ev1]; exact i32_in _
  obtain ⟨v2, ev2⟩ : ∃ v : Int, v = (gxs G (i + 2).toNat).toInt := ⟨_, rfl⟩
  have hv2 : (-2147483648 : Int) ≤ v2 ∧ v2 ≤ 2147483647 := by rw [ev2]; exact i32_in _
  obtain ⟨v3, ev3⟩ : ∃ v : Int, v = (gxs G (i + 3).toNat).toInt := ⟨_, rfl⟩
  have hv3 : (-2147483648 : Int) ≤ v3 ∧ v3 ≤ 2147483647 := by rw [ev3]; exact i32_in _
  obtain ⟨v4, ev4⟩ : ∃ v : Int, v = (gxs G (i + 4).toNat).toInt := ⟨_, rfl⟩
  have hv4 : (-2147483648 : Int) ≤ v4 ∧ v4 ≤ 2147483647 := by rw [ev4]; exact i32_in _
  refine j_aload_n (pc := 325) dL_law_325 rfl rfl ?_
  refine j_aload_n (pc := 326) dL_law_326 rfl rfl ?_
  refine j_iload_n (pc := 327) dL_law_327 rfl rfl ?_
  refine j_iconst (pc := 328) dL_law_328 ?_
  refine j_iadd (pc := 329) dL_law_329 ?_
  refine j_scrAt (pc := 330) dL_law_330 (by omega) (by omega) (by omega) ?_
  refine j_topV (show _ = v1 from ev1.symm) ?_
  refine j_aload_n (pc := 331) dL_law_331 rfl rfl ?_
  refine j_iload_n (pc := 332) dL_law_332 rfl rfl ?_
  refine j_iconst (pc := 333) dL_law_333 ?_
  refine j_iadd (pc := 334) dL_law_334 ?_
  refine j_scrAt (pc := 335) dL_law_335 (by omega) (by omega) (by omega) ?_
  refine j_topV (show _ = v2 from ev2.symm) ?_
  refine j_callV (pc := 336) (As := [vI v1, vI v2]) (st := []) (c_X11_foot hX v1 ⟨by omega, by omega⟩ v2 ⟨by omega, by omega⟩ τ hIτ) mv_L_38 rfl rfl rfl (a_0 hX) dL_law_336 ⟨Nat.le_of_ble_eq_true rfl, Nat.le_of_ble_eq_true rfl⟩ ⟨Nat.le_of_ble_eq_true rfl, Nat.le_of_ble_eq_true rfl⟩ rfl (Nat.le_of_ble_eq_true rfl) rfl (fun z1 σ2 hz1 => ?_)
  obtain ⟨r4, rfl, hr4, rfl, q3_0⟩ := hz1
  replace q3_0 : (r4 = -1 ∧ (¬ (1 ≤ v1 ∧ v1 ≤ τ 2 0) ∨ ¬ (0 ≤ v2 ∧ v2 ≤ 5))) ∨ ((1 ≤ v1 ∧ v1 ≤ τ 2 0) ∧ ((v2 = 0 ∧ r4 = τ 4 v1.toNat) ∨ (v2 = 1 ∧ r4 = τ 5 v1.toNat) ∨ (v2 = 2 ∧ r4 = τ 6 v1.toNat) ∨ (v2 = 3 ∧ r4 = τ 7 v1.toNat) ∨ (v2 = 4 ∧ r4 = τ 8 v1.toNat) ∨ (v2 = 5 ∧ ((0 ≤ r4 ∧ r4 < τ 24 0 ∧ τ 25 r4.toNat = v1) ∨ (r4 = -4 ∧ ∀ k : Nat, (k : Int) < τ 24 0 → ¬ τ 25 k = v1))))) := q3_0
  refine j_st (st' := [vI r4]) rfl ?_
  refine j_pop (pc := 339) dL_law_339 rfl ?_
  refine j_aload_n (pc := 340) dL_law_340 rfl rfl ?_
  refine j_aload_n (pc := 341) dL_law_341 rfl rfl ?_
  refine j_iload_n (pc := 342) dL_law_342 rfl rfl ?_
  refine j_iconst (pc := 343) dL_law_343 ?_
  refine j_iadd (pc := 344) dL_law_344 ?_
  refine j_scrAt (pc := 345) dL_law_345 (by omega) (by omega) (by omega) ?_
  refine j_topV (show _ = v1 from ev1.symm) ?_
  refine j_aload_n (pc := 346) dL_law_346 rfl rfl ?_
  refine j_iload_n (pc := 347) dL_law_347 rfl rfl ?_
  refine j_iconst (pc := 348) dL_law_348 ?_
  refine j_iadd (pc := 349) dL_law_349 ?_
  refine j_scrAt (pc := 350) dL_law_350 (by omega) (by omega) (by omega) ?_
  refine j_topV (show _ = v2 from ev2.symm) ?_
  refine j_callV (pc := 351) (As := [vI v1, vI v2]) (st := []) (c_X12_foot hM v1 ⟨by omega, by omega⟩ v2 ⟨by omega, by omega⟩ τ hIτ) mv_L_42 rfl rfl rfl (a_88 hM) dL_law_351 ⟨Nat.le_of_ble_eq_true rfl, Nat.le_of_ble_eq_true rfl⟩ ⟨Nat.le_of_ble_eq_true rfl, Nat.le_of_ble_eq_true rfl⟩ rfl (Nat.le_of_ble_eq_true rfl) rfl (fun z5 σ6 hz5 => ?_)
  obtain ⟨r8, rfl, hr8, rfl, q7_0⟩ := hz5
  replace q7_0 : (r8 = -1 ∧ (¬ (1 ≤ v1 ∧ v1 ≤ τ 91 0) ∨ ¬ (0 ≤ v2 ∧ v2 ≤ 5))) ∨ ((1 ≤ v1 ∧ v1 ≤ τ 91 0) ∧ ((0 ≤ v2 ∧ v2 ≤ 4 ∧ r8 = τ 92 (5 * v1 + v2).toNat) ∨ (v2 = 5 ∧ ((0 < τ 89 v1.toNat ∧ r8 = cnt (gM 0 τ) v1.toNat - 1) ∨ (τ 89 v1.toNat ≤ 0 ∧ r8 = -4))))) := q7_0
  refine j_st (st' := [vI r8]) rfl ?_
  have rr9 := ST_foot stτ q3_0 q7_0 (show (1 : Int) ≤ τ 91 0 ∧ τ 91 0 ≤ 40 from hIτ 91 0).2
  clear q3_0 q7_0
  refine j_pop (pc := 354) dL_law_354 rfl ?_
  refine j_goto (pc := 355) (tgt := 1352) dL_law_355 rfl ?_
  exact K τ hIτ ⟨mτ, by omega, sτ, bτ, by omega, by omega, by omega, tτ, stτ⟩
set_option maxHeartbeats 4000000 in
set_option maxRecDepth 100000 in
theorem w_case_6 {G : tw_G} (hX : tw_isX G) (hM : tw_isM G) {E : List Frame → Array Value → State → State → Prop} (hN : (gN G : Int) ≤ 2560) (i : Int) (hi : 0 ≤ i ∧ i + 5 ≤ (gN G : Int)) (τ : tw_M) (hIτ : tw_I τ) (hL : tw_LI τ) (K : ∀ τ' : tw_M, tw_I τ' → tw_LI τ' → tw_J G tw_ML E 1352 [(0, vR 300), (1, vR 0), (2, vR 88), (3, vI i)] [] τ') : tw_J G tw_ML E 358 [(0, vR 300), (1, vR 0), (2, vR 88), (3, vI i)] [] τ := by
  obtain ⟨mτ, zτ, sτ, bτ, fτ, kτ0, kτ1, tτ, stτ⟩ := hL
  have g9 : (0 : Int) ≤ τ 10 10 ∧ τ 10 10 ≤ 400 := hIτ 10 10
  obtain ⟨v1, ev1⟩ : ∃ v : Int, v = (gxs G (i + 1).toNat).toInt := ⟨_, rfl⟩
  have hv1 : (-2147483648 : Int) ≤ v1 ∧ v1 ≤ 2147483647 := by rw [ev1]; exact i32_in _
  obtain ⟨v2, ev2⟩ : ∃ v : Int, v = (gxs G (i + 2).toNat).toInt := ⟨_, rfl⟩
  have hv2 : (-2147483648 : Int) ≤ v2 ∧ v2 ≤ 2147483647 := by rw [ev2]; exact i32_in _
  obtain ⟨v3, ev3⟩ : ∃ v : Int, v = (gxs G (i + 3).toNat).toInt := ⟨_, rfl⟩
  have hv3 : (-2147483648 : Int) ≤ v3 ∧ v3 ≤ 2147483647 := by rw [ev3]; exact i32_in _
  obtain ⟨v4, ev4⟩ : ∃ v : Int, v = (gxs G (i + 4).toNat).toInt := ⟨_, rfl⟩
  have hv4 : (-2147483648 : Int) ≤ v4 ∧ v4 ≤ 2147483647 := by rw [ev4]; exact i32_in _
  refine j_aload_n (pc := 358) dL_law_358 rfl rfl ?_
  refine j_aload_n (pc := 359) dL_law_359 rfl rfl ?_
  refine j_iload_n (pc := 360) dL_law_360 rfl rfl ?_
  refine j_iconst (pc := 361) dL_law_361 ?_
  refine j_iadd (pc := 362) dL_law_362 ?_
  refine j_scrAt (pc := 363) dL_law_363 (by omega) (by omega) (by omega) ?_
  refine j_topV (show _ = v1 from ev1.symm) ?_
  refine j_aload_n (pc := 364) dL_law_364 rfl rfl ?_
  refine j_iload_n (pc := 365) dL_law_365 rfl rfl ?_
  refine j_iconst (pc := 366) dL_law_366 ?_
  refine j_iadd (pc := 367) dL_law_367 ?_
  refine j_scrAt (pc := 368) dL_law_368 (by omega) (by omega) (by omega) ?_
  refine j_topV (show _ = v2 from ev2.symm) ?_
  refine j_callV (pc := 369) (As := [vI v1, vI v2]) (st := []) (c_X11_put hX v1 ⟨by omega, by omega⟩ v2 ⟨by omega, by omega⟩ τ hIτ) mv_L_43 rfl rfl rfl (a_0 hX) dL_law_369 ⟨Nat.le_of_ble_eq_true rfl, Nat.le_of_ble_eq_true rfl⟩ ⟨Nat.le_of_ble_eq_true rfl, Nat.le_of_ble_eq_true rfl⟩ rfl (Nat.le_of_ble_eq_true rfl) rfl (fun z1 σ2 hz1 => ?_)
  obtain ⟨r4, rfl, hr4, hIσ2, hGσ2, q3_0⟩ := hz1
  replace q3_0 : ∀ gg qq : Nat → Int, RG 24 gg qq τ → (1 ≤ v2 → v2 ≤ 10 → 0 ≤ τ 28 v2.toNat) → (¬ whyS (wW 1 τ) (gg v1.toNat) (τ 24 0) (τ 28 v2.toNat) v1 v2 = 0 ∧ r4 = whyS (wW 1 τ) (gg v1.toNat) (τ 24 0) (τ 28 v2.toNat) v1 v2 ∧ ∀ c j, σ2 c j = τ c j) ∨ (whyS (wW 1 τ) (gg v1.toNat) (τ 24 0) (τ 28 v2.toNat) v1 v2 = 0 ∧ r4 = cnt gg v1.toNat ∧ RG 24 (pg gg v1.toNat v2) (pg qq v1.toNat 0) σ2 ∧ σ2 28 v2.toNat = τ 28 v2.toNat - 1 ∧ ∀ j : Nat, ¬ j = v2.toNat → σ2 28 j = τ 28 j) := q3_0
  refine j_st (st' := [vI r4]) rfl ?_
  have y5 : σ2 10 10 = τ 10 10 := (hGσ2 10 10 (show ¬ ((24 ≤ 10 ∧ 10 < 29)) from by omega))
  have f6 : (0 : Int) ≤ τ 10 10 ∧ τ 10 10 ≤ 400 := hIτ 10 10
  have bσ2 : BY σ2 := BY_kept bτ (fun j => hGσ2 11 j (show ¬ ((24 ≤ 11 ∧ 11 < 29)) from by omega)) (fun j => hGσ2 98 j (show ¬ ((24 ≤ 98 ∧ 98 < 29)) from by omega)) (by omega)
  have mσ2 : mI σ2 := mI_kept mτ (fun j hj => hGσ2 89 j (show ¬ ((24 ≤ 89 ∧ 89 < 29)) from by omega)) (fun j => hGσ2 90 j (show ¬ ((24 ≤ 90 ∧ 90 < 29)) from by omega)) (hGσ2 91 0 (show ¬ ((24 ≤ 91 ∧ 91 < 29)) from by omega)) hIτ
  have sσ2 : SR σ2 := SR_kept sτ (fun c j h => hGσ2 c j (show ¬ ((24 ≤ c ∧ c < 29)) from by omega)) (fun j => hGσ2 104 j (show ¬ ((24 ≤ 104 ∧ 104 < 29)) from by omega)) (fun j => hGσ2 105 j (show ¬ ((24 ≤ 105 ∧ 105 < 29)) from by omega))
  have tσ2 : TT σ2 := TT_kept tτ (fun c j h => hGσ2 c j (show ¬ ((24 ≤ c ∧ c < 29)) from by omega)) (fun j h => hGσ2 89 j (show ¬ ((24 ≤ 89 ∧ 89 < 29)) from by omega))
  refine j_pop (pc := 372) dL_law_372 rfl ?_
  refine j_aload_n (pc := 373) dL_law_373 rfl rfl ?_
  refine j_aload_n (pc := 374) dL_law_374 rfl rfl ?_
  refine j_iload_n (pc := 375) dL_law_375 rfl rfl ?_
  refine j_iconst (pc := 376) dL_law_376 ?_
  refine j_iadd (pc := 377) dL_law_377 ?_
  refine j_scrAt (pc := 378) dL_law_378 (by omega) (by omega) (by omega) ?_
  refine j_topV (show _ = v1 from ev1.symm) ?_
  refine j_aload_n (pc := 379) dL_law_379 rfl rfl ?_
  refine j_iload_n (pc := 380) dL_law_380 rfl rfl ?_
  refine j_iconst (pc := 381) dL_law_381 ?_
  refine j_iadd (pc := 382) dL_law_382 ?_
  refine j_scrAt (pc := 383) dL_law_383 (by omega) (by omega) (by omega) ?_
  refine j_topV (show _ = v2 from ev2.symm) ?_
  refine j_callV (pc := 384) (As := [vI v1, vI v2]) (st := []) (c_X12_put hM v1 ⟨by omega, by omega⟩ v2 ⟨by omega, by omega⟩ σ2 hIσ2 mσ2) mv_L_46 rfl rfl rfl (a_88 hM) dL_law_384 ⟨Nat.le_of_ble_eq_true rfl, Nat.le_of_ble_eq_true rfl⟩ ⟨Nat.le_of_ble_eq_true rfl, Nat.le_of_ble_eq_true rfl⟩ rfl (Nat.le_of_ble_eq_true rfl) rfl (fun z7 σ8 hz7 => ?_)
  obtain ⟨r10, rfl, hr10, hIσ8, hGσ8, q9_0, q9_1⟩ := hz7
  replace q9_0 : mI σ8 := q9_0
  replace q9_1 : (¬ whyS (wM σ2) (gM 0 σ2 v1.toNat) (cnt (gM 0 σ2) (σ2 91 0).toNat) (σ2 89 (82 + v2).toNat) v1 v2 = 0 ∧ r10 = whyS (wM σ2) (gM 0 σ2 v1.toNat) (cnt (gM 0 σ2) (σ2 91 0).toNat) (σ2 89 (82 + v2).toNat) v1 v2 ∧ ∀ c j, σ8 c j = σ2 c j) ∨ (whyS (wM σ2) (gM 0 σ2 v1.toNat) (cnt (gM 0 σ2) (σ2 91 0).toNat) (σ2 89 (82 + v2).toNat) v1 v2 = 0 ∧ r10 = cnt (gM 0 σ2) v1.toNat ∧ σ8 89 v1.toNat = v2 ∧ σ8 89 (41 + v1).toNat = 0 ∧ (σ2 89 (82 + v2).toNat < 0 ∨ σ8 89 (82 + v2).toNat = σ2 89 (82 + v2).toNat - 1) ∧ ∀ j : Nat, ¬ j = v1.toNat → ¬ j = (41 + v1).toNat → ¬ j = (82 + v2).toNat → σ8 89 j = σ2 89 j) := q9_1
  have y11 : σ2 91 0 = τ 91 0 := (hGσ2 91 0 (show ¬ ((24 ≤ 91 ∧ 91 < 29)) from by omega))
  have f12 : (1 : Int) ≤ τ 91 0 ∧ τ 91 0 ≤ 40 := hIτ 91 0
  have y13 : σ2 89 ((82 + v2).toNat) = τ 89 ((82 + v2).toNat) := (hGσ2 89 ((82 + v2).toNat) (show ¬ ((24 ≤ 89 ∧ 89 < 29)) from by omega))
  refine j_st (st' := [vI r10]) rfl ?_
  have y14 : σ8 10 10 = τ 10 10 := ((hGσ8 10 10 (show ¬ ((10 = 89 ∧ 10 < 93)) from by omega))).trans (hGσ2 10 10 (show ¬ ((24 ≤ 10 ∧ 10 < 29)) from by omega))
  have bσ8 : BY σ8 := BY_kept bσ2 (fun j => hGσ8 11 j (show ¬ ((11 = 89 ∧ j < 93)) from by omega)) (fun j => hGσ8 98 j (show ¬ ((98 = 89 ∧ j < 93)) from by omega)) (by omega)
  have mσ8 : mI σ8 := q9_0
  have sσ8 : SR σ8 := SR_kept sσ2 (fun c j h => hGσ8 c j (show ¬ ((c = 89 ∧ j < 93)) from by omega)) (fun j => hGσ8 104 j (show ¬ ((104 = 89 ∧ j < 93)) from by omega)) (fun j => hGσ8 105 j (show ¬ ((105 = 89 ∧ j < 93)) from by omega))
  have tσ8 : TT σ8 := TT_kept tσ2 (fun c j h => hGσ8 c j (show ¬ ((c = 89 ∧ j < 93)) from by omega)) (fun j h => hGσ8 89 j (show ¬ ((89 = 89 ∧ j < 93)) from by omega))
  have ht9 : (1 : Int) ≤ τ 91 0 ∧ τ 91 0 ≤ 40 := hIτ 91 0
  have st9 := ST_put stτ ht9 q3_0 q9_1 (fun c j h => hGσ2 c j (show ¬ ((24 ≤ c ∧ c < 29)) from by omega)) (fun c j h => hGσ8 c j (show ¬ ((c = 89 ∧ j < 93)) from by omega))
  have rr9 := st9.2
  clear q3_0 q9_1
  refine j_pop (pc := 387) dL_law_387 rfl ?_
  refine j_goto (pc := 388) (tgt := 1352) dL_law_388 rfl ?_
  have y15 : σ8 10 10 = τ 10 10 := ((hGσ8 10 10 (show ¬ ((10 = 89 ∧ 10 < 93)) from by omega))).trans (hGσ2 10 10 (show ¬ ((24 ≤ 10 ∧ 10 < 29)) from by omega))
  have y16 : σ8 88 12 = τ 88 12 := ((hGσ8 88 12 (show ¬ ((88 = 89 ∧ 12 < 93)) from by omega))).trans (hGσ2 88 12 (show ¬ ((24 ≤ 88 ∧ 88 < 29)) from by omega))
  have f17 : (0 : Int) ≤ τ 88 12 ∧ τ 88 12 ≤ 400 := hIτ 88 12
  have y18 : σ8 0 13 = τ 0 13 := ((hGσ8 0 13 (show ¬ ((0 = 89 ∧ 13 < 93)) from by omega))).trans (hGσ2 0 13 (show ¬ ((24 ≤ 0 ∧ 0 < 29)) from by omega))
  have f19 : (-2147483648 : Int) ≤ τ 0 13 ∧ τ 0 13 ≤ 2147483647 := hIτ 0 13
  have y20 : σ8 88 17 = τ 88 17 := ((hGσ8 88 17 (show ¬ ((88 = 89 ∧ 17 < 93)) from by omega))).trans (hGσ2 88 17 (show ¬ ((24 ≤ 88 ∧ 88 < 29)) from by omega))
  have f21 : (0 : Int) ≤ τ 88 17 ∧ τ 88 17 ≤ 5 := hIτ 88 17
  have y22 : σ8 31 6 = τ 31 6 := ((hGσ8 31 6 (show ¬ ((31 = 89 ∧ 6 < 93)) from by omega))).trans (hGσ2 31 6 (show ¬ ((24 ≤ 31 ∧ 31 < 29)) from by omega))
  have f23 : (0 : Int) ≤ τ 31 6 ∧ τ 31 6 ≤ 1 := hIτ 31 6
  have y24 : σ8 39 6 = τ 39 6 := ((hGσ8 39 6 (show ¬ ((39 = 89 ∧ 6 < 93)) from by omega))).trans (hGσ2 39 6 (show ¬ ((24 ≤ 39 ∧ 39 < 29)) from by omega))
  have f25 : (0 : Int) ≤ τ 39 6 ∧ τ 39 6 ≤ 1 := hIτ 39 6
  have y26 : σ8 90 0 = τ 90 0 := ((hGσ8 90 0 (show ¬ ((90 = 89 ∧ 0 < 93)) from by omega))).trans (hGσ2 90 0 (show ¬ ((24 ≤ 90 ∧ 90 < 29)) from by omega))
  have f27 : (0 : Int) ≤ τ 90 0 ∧ τ 90 0 ≤ 1 := hIτ 90 0
  have y28 : σ8 90 1 = τ 90 1 := ((hGσ8 90 1 (show ¬ ((90 = 89 ∧ 1 < 93)) from by omega))).trans (hGσ2 90 1 (show ¬ ((24 ≤ 90 ∧ 90 < 29)) from by omega))
  have f29 : (0 : Int) ≤ τ 90 1 ∧ τ 90 1 ≤ 1 := hIτ 90 1
  exact K σ8 hIσ8 ⟨mσ8, by omega, sσ8, bσ8, by omega, by omega, by omega, tσ8, st9.1⟩
