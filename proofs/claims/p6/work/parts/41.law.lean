/-! THE LAW'S CALLS. -/
theorem dL_law_0 : decode cL_law 0 = .ok (.new 7, 3) := by decide +kernel
theorem dL_law_3 : decode cL_law 3 = .ok (.dup, 1) := by decide +kernel
theorem dL_law_4 : decode cL_law 4 = .ok (.invokespecial 9, 3) := by decide +kernel
theorem dL_law_7 : decode cL_law 7 = .ok (.astore_n 1, 1) := by decide +kernel
theorem dL_law_8 : decode cL_law 8 = .ok (.new 10, 3) := by decide +kernel
theorem dL_law_11 : decode cL_law 11 = .ok (.dup, 1) := by decide +kernel
theorem dL_law_12 : decode cL_law 12 = .ok (.invokespecial 12, 3) := by decide +kernel
theorem dL_law_15 : decode cL_law 15 = .ok (.astore_n 2, 1) := by decide +kernel
theorem dL_law_16 : decode cL_law 16 = .ok (.iconst 0, 1) := by decide +kernel
theorem dL_law_17 : decode cL_law 17 = .ok (.istore_n 3, 1) := by decide +kernel
theorem dL_law_18 : decode cL_law 18 = .ok (.iload_n 3, 1) := by decide +kernel
theorem dL_law_19 : decode cL_law 19 = .ok (.aload_n 0, 1) := by decide +kernel
theorem dL_law_20 : decode cL_law 20 = .ok (.arraylength, 1) := by decide +kernel
theorem dL_law_21 : decode cL_law 21 = .ok (.iconst 5, 1) := by decide +kernel
theorem dL_law_22 : decode cL_law 22 = .ok (.isub, 1) := by decide +kernel
theorem dL_law_23 : decode cL_law 23 = .ok (.if_icmp .gt 1335, 3) := by decide +kernel
theorem dL_law_26 : decode cL_law 26 = .ok (.aload_n 0, 1) := by decide +kernel
theorem dL_law_27 : decode cL_law 27 = .ok (.iload_n 3, 1) := by decide +kernel
theorem dL_law_28 : decode cL_law 28 = .ok (.iaload, 1) := by decide +kernel
theorem dL_law_29 : decode cL_law 29 = .ok (.bipush 63, 2) := by decide +kernel
theorem dL_law_31 : decode cL_law 31 = .ok (.iand, 1) := by decide +kernel
theorem dL_law_32 : decode cL_law 32 = .ok (.tableswitch 1320 0 37 #[168, 221, 244, 257, 270, 293, 326, 359, 382, 431, 464, 477, 520, 563, 596, 619, 632, 655, 688, 711, 724, 747, 780, 803, 872, 895, 944, 977, 990, 1023, 1076, 1099, 1122, 1145, 1188, 1231, 1284, 1297], 168) := by decide +kernel
theorem dL_law_200 : decode cL_law 200 = .ok (.aload_n 1, 1) := by decide +kernel
theorem dL_law_201 : decode cL_law 201 = .ok (.aload_n 0, 1) := by decide +kernel
theorem dL_law_202 : decode cL_law 202 = .ok (.iload_n 3, 1) := by decide +kernel
theorem dL_law_203 : decode cL_law 203 = .ok (.iconst 1, 1) := by decide +kernel
theorem dL_law_204 : decode cL_law 204 = .ok (.iadd, 1) := by decide +kernel
theorem dL_law_205 : decode cL_law 205 = .ok (.iaload, 1) := by decide +kernel
theorem dL_law_206 : decode cL_law 206 = .ok (.i2l, 1) := by decide +kernel
theorem dL_law_207 : decode cL_law 207 = .ok (.bipush 32, 2) := by decide +kernel
theorem dL_law_209 : decode cL_law 209 = .ok (.lshl, 1) := by decide +kernel
theorem dL_law_210 : decode cL_law 210 = .ok (.aload_n 0, 1) := by decide +kernel
theorem dL_law_211 : decode cL_law 211 = .ok (.iload_n 3, 1) := by decide +kernel
theorem dL_law_212 : decode cL_law 212 = .ok (.iconst 2, 1) := by decide +kernel
theorem dL_law_213 : decode cL_law 213 = .ok (.iadd, 1) := by decide +kernel
theorem dL_law_214 : decode cL_law 214 = .ok (.iaload, 1) := by decide +kernel
theorem dL_law_215 : decode cL_law 215 = .ok (.i2l, 1) := by decide +kernel
theorem dL_law_216 : decode cL_law 216 = .ok (.ldc2_w 13, 3) := by decide +kernel
theorem dL_law_219 : decode cL_law 219 = .ok (.land, 1) := by decide +kernel
theorem dL_law_220 : decode cL_law 220 = .ok (.lor, 1) := by decide +kernel
theorem dL_law_221 : decode cL_law 221 = .ok (.invokevirtual 15, 3) := by decide +kernel
theorem dL_law_224 : decode cL_law 224 = .ok (.pop, 1) := by decide +kernel
theorem dL_law_225 : decode cL_law 225 = .ok (.aload_n 2, 1) := by decide +kernel
theorem dL_law_226 : decode cL_law 226 = .ok (.aload_n 0, 1) := by decide +kernel
theorem dL_law_227 : decode cL_law 227 = .ok (.iload_n 3, 1) := by decide +kernel
theorem dL_law_228 : decode cL_law 228 = .ok (.iconst 1, 1) := by decide +kernel
theorem dL_law_229 : decode cL_law 229 = .ok (.iadd, 1) := by decide +kernel
theorem dL_law_230 : decode cL_law 230 = .ok (.iaload, 1) := by decide +kernel
theorem dL_law_231 : decode cL_law 231 = .ok (.i2l, 1) := by decide +kernel
theorem dL_law_232 : decode cL_law 232 = .ok (.bipush 32, 2) := by decide +kernel
theorem dL_law_234 : decode cL_law 234 = .ok (.lshl, 1) := by decide +kernel
theorem dL_law_235 : decode cL_law 235 = .ok (.aload_n 0, 1) := by decide +kernel
theorem dL_law_236 : decode cL_law 236 = .ok (.iload_n 3, 1) := by decide +kernel
theorem dL_law_237 : decode cL_law 237 = .ok (.iconst 2, 1) := by decide +kernel
theorem dL_law_238 : decode cL_law 238 = .ok (.iadd, 1) := by decide +kernel
theorem dL_law_239 : decode cL_law 239 = .ok (.iaload, 1) := by decide +kernel
theorem dL_law_240 : decode cL_law 240 = .ok (.i2l, 1) := by decide +kernel
theorem dL_law_241 : decode cL_law 241 = .ok (.ldc2_w 13, 3) := by decide +kernel
theorem dL_law_244 : decode cL_law 244 = .ok (.land, 1) := by decide +kernel
theorem dL_law_245 : decode cL_law 245 = .ok (.lor, 1) := by decide +kernel
theorem dL_law_246 : decode cL_law 246 = .ok (.invokevirtual 19, 3) := by decide +kernel
theorem dL_law_249 : decode cL_law 249 = .ok (.pop, 1) := by decide +kernel
theorem dL_law_250 : decode cL_law 250 = .ok (.goto 1102, 3) := by decide +kernel
theorem dL_law_253 : decode cL_law 253 = .ok (.aload_n 1, 1) := by decide +kernel
theorem dL_law_254 : decode cL_law 254 = .ok (.aload_n 0, 1) := by decide +kernel
theorem dL_law_255 : decode cL_law 255 = .ok (.iload_n 3, 1) := by decide +kernel
theorem dL_law_256 : decode cL_law 256 = .ok (.iconst 1, 1) := by decide +kernel
theorem dL_law_257 : decode cL_law 257 = .ok (.iadd, 1) := by decide +kernel
theorem dL_law_258 : decode cL_law 258 = .ok (.iaload, 1) := by decide +kernel
theorem dL_law_259 : decode cL_law 259 = .ok (.invokevirtual 20, 3) := by decide +kernel
theorem dL_law_262 : decode cL_law 262 = .ok (.pop, 1) := by decide +kernel
theorem dL_law_263 : decode cL_law 263 = .ok (.aload_n 2, 1) := by decide +kernel
theorem dL_law_264 : decode cL_law 264 = .ok (.aload_n 0, 1) := by decide +kernel
theorem dL_law_265 : decode cL_law 265 = .ok (.iload_n 3, 1) := by decide +kernel
theorem dL_law_266 : decode cL_law 266 = .ok (.iconst 1, 1) := by decide +kernel
theorem dL_law_267 : decode cL_law 267 = .ok (.iadd, 1) := by decide +kernel
theorem dL_law_268 : decode cL_law 268 = .ok (.iaload, 1) := by decide +kernel
theorem dL_law_269 : decode cL_law 269 = .ok (.invokevirtual 24, 3) := by decide +kernel
theorem dL_law_272 : decode cL_law 272 = .ok (.pop, 1) := by decide +kernel
theorem dL_law_273 : decode cL_law 273 = .ok (.goto 1079, 3) := by decide +kernel
theorem dL_law_276 : decode cL_law 276 = .ok (.aload_n 1, 1) := by decide +kernel
theorem dL_law_277 : decode cL_law 277 = .ok (.invokevirtual 25, 3) := by decide +kernel
theorem dL_law_280 : decode cL_law 280 = .ok (.pop, 1) := by decide +kernel
theorem dL_law_281 : decode cL_law 281 = .ok (.aload_n 2, 1) := by decide +kernel
theorem dL_law_282 : decode cL_law 282 = .ok (.invokevirtual 29, 3) := by decide +kernel
theorem dL_law_285 : decode cL_law 285 = .ok (.pop, 1) := by decide +kernel
theorem dL_law_286 : decode cL_law 286 = .ok (.goto 1066, 3) := by decide +kernel
theorem dL_law_289 : decode cL_law 289 = .ok (.aload_n 1, 1) := by decide +kernel
theorem dL_law_290 : decode cL_law 290 = .ok (.invokevirtual 30, 3) := by decide +kernel
theorem dL_law_293 : decode cL_law 293 = .ok (.pop, 1) := by decide +kernel
theorem dL_law_294 : decode cL_law 294 = .ok (.aload_n 2, 1) := by decide +kernel
theorem dL_law_295 : decode cL_law 295 = .ok (.invokevirtual 33, 3) := by decide +kernel
theorem dL_law_298 : decode cL_law 298 = .ok (.pop, 1) := by decide +kernel
theorem dL_law_299 : decode cL_law 299 = .ok (.goto 1053, 3) := by decide +kernel
theorem dL_law_302 : decode cL_law 302 = .ok (.aload_n 1, 1) := by decide +kernel
theorem dL_law_303 : decode cL_law 303 = .ok (.aload_n 0, 1) := by decide +kernel
theorem dL_law_304 : decode cL_law 304 = .ok (.iload_n 3, 1) := by decide +kernel
theorem dL_law_305 : decode cL_law 305 = .ok (.iconst 1, 1) := by decide +kernel
theorem dL_law_306 : decode cL_law 306 = .ok (.iadd, 1) := by decide +kernel
theorem dL_law_307 : decode cL_law 307 = .ok (.iaload, 1) := by decide +kernel
theorem dL_law_308 : decode cL_law 308 = .ok (.invokevirtual 34, 3) := by decide +kernel
theorem dL_law_311 : decode cL_law 311 = .ok (.aload_n 2, 1) := by decide +kernel
theorem dL_law_312 : decode cL_law 312 = .ok (.aload_n 0, 1) := by decide +kernel
theorem dL_law_313 : decode cL_law 313 = .ok (.iload_n 3, 1) := by decide +kernel
theorem dL_law_314 : decode cL_law 314 = .ok (.iconst 1, 1) := by decide +kernel
theorem dL_law_315 : decode cL_law 315 = .ok (.iadd, 1) := by decide +kernel
theorem dL_law_316 : decode cL_law 316 = .ok (.iaload, 1) := by decide +kernel
theorem dL_law_317 : decode cL_law 317 = .ok (.invokevirtual 37, 3) := by decide +kernel
theorem dL_law_320 : decode cL_law 320 = .ok (.if_icmp .eq 1032, 3) := by decide +kernel
theorem dL_law_323 : decode cL_law 323 = .ok (.iconst 0, 1) := by decide +kernel
theorem dL_law_324 : decode cL_law 324 = .ok (.ireturn, 1) := by decide +kernel
theorem dL_law_325 : decode cL_law 325 = .ok (.aload_n 1, 1) := by decide +kernel
theorem dL_law_326 : decode cL_law 326 = .ok (.aload_n 0, 1) := by decide +kernel
theorem dL_law_327 : decode cL_law 327 = .ok (.iload_n 3, 1) := by decide +kernel
theorem dL_law_328 : decode cL_law 328 = .ok (.iconst 1, 1) := by decide +kernel
theorem dL_law_329 : decode cL_law 329 = .ok (.iadd, 1) := by decide +kernel
theorem dL_law_330 : decode cL_law 330 = .ok (.iaload, 1) := by decide +kernel
theorem dL_law_331 : decode cL_law 331 = .ok (.aload_n 0, 1) := by decide +kernel
theorem dL_law_332 : decode cL_law 332 = .ok (.iload_n 3, 1) := by decide +kernel
theorem dL_law_333 : decode cL_law 333 = .ok (.iconst 2, 1) := by decide +kernel
theorem dL_law_334 : decode cL_law 334 = .ok (.iadd, 1) := by decide +kernel
theorem dL_law_335 : decode cL_law 335 = .ok (.iaload, 1) := by decide +kernel
theorem dL_law_336 : decode cL_law 336 = .ok (.invokevirtual 38, 3) := by decide +kernel
theorem dL_law_339 : decode cL_law 339 = .ok (.pop, 1) := by decide +kernel
theorem dL_law_340 : decode cL_law 340 = .ok (.aload_n 2, 1) := by decide +kernel
theorem dL_law_341 : decode cL_law 341 = .ok (.aload_n 0, 1) := by decide +kernel
theorem dL_law_342 : decode cL_law 342 = .ok (.iload_n 3, 1) := by decide +kernel
theorem dL_law_343 : decode cL_law 343 = .ok (.iconst 1, 1) := by decide +kernel
theorem dL_law_344 : decode cL_law 344 = .ok (.iadd, 1) := by decide +kernel
theorem dL_law_345 : decode cL_law 345 = .ok (.iaload, 1) := by decide +kernel
theorem dL_law_346 : decode cL_law 346 = .ok (.aload_n 0, 1) := by decide +kernel
theorem dL_law_347 : decode cL_law 347 = .ok (.iload_n 3, 1) := by decide +kernel
theorem dL_law_348 : decode cL_law 348 = .ok (.iconst 2, 1) := by decide +kernel
theorem dL_law_349 : decode cL_law 349 = .ok (.iadd, 1) := by decide +kernel
theorem dL_law_350 : decode cL_law 350 = .ok (.iaload, 1) := by decide +kernel
theorem dL_law_351 : decode cL_law 351 = .ok (.invokevirtual 42, 3) := by decide +kernel
theorem dL_law_354 : decode cL_law 354 = .ok (.pop, 1) := by decide +kernel
theorem dL_law_355 : decode cL_law 355 = .ok (.goto 997, 3) := by decide +kernel
theorem dL_law_358 : decode cL_law 358 = .ok (.aload_n 1, 1) := by decide +kernel
theorem dL_law_359 : decode cL_law 359 = .ok (.aload_n 0, 1) := by decide +kernel
theorem dL_law_360 : decode cL_law 360 = .ok (.iload_n 3, 1) := by decide +kernel
theorem dL_law_361 : decode cL_law 361 = .ok (.iconst 1, 1) := by decide +kernel
theorem dL_law_362 : decode cL_law 362 = .ok (.iadd, 1) := by decide +kernel
theorem dL_law_363 : decode cL_law 363 = .ok (.iaload, 1) := by decide +kernel
theorem dL_law_364 : decode cL_law 364 = .ok (.aload_n 0, 1) := by decide +kernel
theorem dL_law_365 : decode cL_law 365 = .ok (.iload_n 3, 1) := by decide +kernel
theorem dL_law_366 : decode cL_law 366 = .ok (.iconst 2, 1) := by decide +kernel
theorem dL_law_367 : decode cL_law 367 = .ok (.iadd, 1) := by decide +kernel
theorem dL_law_368 : decode cL_law 368 = .ok (.iaload, 1) := by decide +kernel
theorem dL_law_369 : decode cL_law 369 = .ok (.invokevirtual 43, 3) := by decide +kernel
theorem dL_law_372 : decode cL_law 372 = .ok (.pop, 1) := by decide +kernel
theorem dL_law_373 : decode cL_law 373 = .ok (.aload_n 2, 1) := by decide +kernel
theorem dL_law_374 : decode cL_law 374 = .ok (.aload_n 0, 1) := by decide +kernel
theorem dL_law_375 : decode cL_law 375 = .ok (.iload_n 3, 1) := by decide +kernel
theorem dL_law_376 : decode cL_law 376 = .ok (.iconst 1, 1) := by decide +kernel
theorem dL_law_377 : decode cL_law 377 = .ok (.iadd, 1) := by decide +kernel
theorem dL_law_378 : decode cL_law 378 = .ok (.iaload, 1) := by decide +kernel
theorem dL_law_379 : decode cL_law 379 = .ok (.aload_n 0, 1) := by decide +kernel
theorem dL_law_380 : decode cL_law 380 = .ok (.iload_n 3, 1) := by decide +kernel
theorem dL_law_381 : decode cL_law 381 = .ok (.iconst 2, 1) := by decide +kernel
theorem dL_law_382 : decode cL_law 382 = .ok (.iadd, 1) := by decide +kernel
theorem dL_law_383 : decode cL_law 383 = .ok (.iaload, 1) := by decide +kernel
theorem dL_law_384 : decode cL_law 384 = .ok (.invokevirtual 46, 3) := by decide +kernel
theorem dL_law_387 : decode cL_law 387 = .ok (.pop, 1) := by decide +kernel
theorem dL_law_388 : decode cL_law 388 = .ok (.goto 964, 3) := by decide +kernel
theorem dL_law_391 : decode cL_law 391 = .ok (.aload_n 1, 1) := by decide +kernel
theorem dL_law_392 : decode cL_law 392 = .ok (.aload_n 0, 1) := by decide +kernel
theorem dL_law_393 : decode cL_law 393 = .ok (.iload_n 3, 1) := by decide +kernel
theorem dL_law_394 : decode cL_law 394 = .ok (.iconst 1, 1) := by decide +kernel
theorem dL_law_395 : decode cL_law 395 = .ok (.iadd, 1) := by decide +kernel
theorem dL_law_396 : decode cL_law 396 = .ok (.iaload, 1) := by decide +kernel
theorem dL_law_397 : decode cL_law 397 = .ok (.invokevirtual 47, 3) := by decide +kernel
theorem dL_law_400 : decode cL_law 400 = .ok (.pop, 1) := by decide +kernel
theorem dL_law_401 : decode cL_law 401 = .ok (.aload_n 2, 1) := by decide +kernel
theorem dL_law_402 : decode cL_law 402 = .ok (.aload_n 0, 1) := by decide +kernel
theorem dL_law_403 : decode cL_law 403 = .ok (.iload_n 3, 1) := by decide +kernel
theorem dL_law_404 : decode cL_law 404 = .ok (.iconst 1, 1) := by decide +kernel
theorem dL_law_405 : decode cL_law 405 = .ok (.iadd, 1) := by decide +kernel
theorem dL_law_406 : decode cL_law 406 = .ok (.iaload, 1) := by decide +kernel
theorem dL_law_407 : decode cL_law 407 = .ok (.invokevirtual 50, 3) := by decide +kernel
theorem dL_law_410 : decode cL_law 410 = .ok (.pop, 1) := by decide +kernel
theorem dL_law_411 : decode cL_law 411 = .ok (.goto 941, 3) := by decide +kernel
theorem dL_law_414 : decode cL_law 414 = .ok (.aload_n 1, 1) := by decide +kernel
theorem dL_law_415 : decode cL_law 415 = .ok (.aload_n 0, 1) := by decide +kernel
theorem dL_law_416 : decode cL_law 416 = .ok (.iload_n 3, 1) := by decide +kernel
theorem dL_law_417 : decode cL_law 417 = .ok (.iconst 1, 1) := by decide +kernel
theorem dL_law_418 : decode cL_law 418 = .ok (.iadd, 1) := by decide +kernel
theorem dL_law_419 : decode cL_law 419 = .ok (.iaload, 1) := by decide +kernel
theorem dL_law_420 : decode cL_law 420 = .ok (.aload_n 0, 1) := by decide +kernel
theorem dL_law_421 : decode cL_law 421 = .ok (.iload_n 3, 1) := by decide +kernel
theorem dL_law_422 : decode cL_law 422 = .ok (.iconst 2, 1) := by decide +kernel
theorem dL_law_423 : decode cL_law 423 = .ok (.iadd, 1) := by decide +kernel
theorem dL_law_424 : decode cL_law 424 = .ok (.iaload, 1) := by decide +kernel
theorem dL_law_425 : decode cL_law 425 = .ok (.ifCond .eq 7, 3) := by decide +kernel
theorem dL_law_428 : decode cL_law 428 = .ok (.iconst 1, 1) := by decide +kernel
theorem dL_law_429 : decode cL_law 429 = .ok (.goto 4, 3) := by decide +kernel
theorem dL_law_432 : decode cL_law 432 = .ok (.iconst 0, 1) := by decide +kernel
theorem dL_law_433 : decode cL_law 433 = .ok (.invokevirtual 51, 3) := by decide +kernel
theorem dL_law_436 : decode cL_law 436 = .ok (.pop, 1) := by decide +kernel
theorem dL_law_437 : decode cL_law 437 = .ok (.aload_n 2, 1) := by decide +kernel
theorem dL_law_438 : decode cL_law 438 = .ok (.aload_n 0, 1) := by decide +kernel
theorem dL_law_439 : decode cL_law 439 = .ok (.iload_n 3, 1) := by decide +kernel
theorem dL_law_440 : decode cL_law 440 = .ok (.iconst 1, 1) := by decide +kernel
theorem dL_law_441 : decode cL_law 441 = .ok (.iadd, 1) := by decide +kernel
theorem dL_law_442 : decode cL_law 442 = .ok (.iaload, 1) := by decide +kernel
theorem dL_law_443 : decode cL_law 443 = .ok (.aload_n 0, 1) := by decide +kernel
theorem dL_law_444 : decode cL_law 444 = .ok (.iload_n 3, 1) := by decide +kernel
theorem dL_law_445 : decode cL_law 445 = .ok (.iconst 2, 1) := by decide +kernel
theorem dL_law_446 : decode cL_law 446 = .ok (.iadd, 1) := by decide +kernel
theorem dL_law_447 : decode cL_law 447 = .ok (.iaload, 1) := by decide +kernel
theorem dL_law_448 : decode cL_law 448 = .ok (.ifCond .eq 7, 3) := by decide +kernel
theorem dL_law_451 : decode cL_law 451 = .ok (.iconst 1, 1) := by decide +kernel
theorem dL_law_452 : decode cL_law 452 = .ok (.goto 4, 3) := by decide +kernel
theorem dL_law_455 : decode cL_law 455 = .ok (.iconst 0, 1) := by decide +kernel
theorem dL_law_456 : decode cL_law 456 = .ok (.invokevirtual 55, 3) := by decide +kernel
theorem dL_law_459 : decode cL_law 459 = .ok (.pop, 1) := by decide +kernel
theorem dL_law_460 : decode cL_law 460 = .ok (.goto 892, 3) := by decide +kernel
theorem dL_law_463 : decode cL_law 463 = .ok (.aload_n 1, 1) := by decide +kernel
theorem dL_law_464 : decode cL_law 464 = .ok (.aload_n 0, 1) := by decide +kernel
theorem dL_law_465 : decode cL_law 465 = .ok (.iload_n 3, 1) := by decide +kernel
theorem dL_law_466 : decode cL_law 466 = .ok (.iconst 1, 1) := by decide +kernel
theorem dL_law_467 : decode cL_law 467 = .ok (.iadd, 1) := by decide +kernel
theorem dL_law_468 : decode cL_law 468 = .ok (.iaload, 1) := by decide +kernel
theorem dL_law_469 : decode cL_law 469 = .ok (.aload_n 0, 1) := by decide +kernel
theorem dL_law_470 : decode cL_law 470 = .ok (.iload_n 3, 1) := by decide +kernel
theorem dL_law_471 : decode cL_law 471 = .ok (.iconst 2, 1) := by decide +kernel
theorem dL_law_472 : decode cL_law 472 = .ok (.iadd, 1) := by decide +kernel
theorem dL_law_473 : decode cL_law 473 = .ok (.iaload, 1) := by decide +kernel
theorem dL_law_474 : decode cL_law 474 = .ok (.invokevirtual 56, 3) := by decide +kernel
theorem dL_law_477 : decode cL_law 477 = .ok (.pop, 1) := by decide +kernel
theorem dL_law_478 : decode cL_law 478 = .ok (.aload_n 2, 1) := by decide +kernel
theorem dL_law_479 : decode cL_law 479 = .ok (.aload_n 0, 1) := by decide +kernel
theorem dL_law_480 : decode cL_law 480 = .ok (.iload_n 3, 1) := by decide +kernel
theorem dL_law_481 : decode cL_law 481 = .ok (.iconst 1, 1) := by decide +kernel
theorem dL_law_482 : decode cL_law 482 = .ok (.iadd, 1) := by decide +kernel
theorem dL_law_483 : decode cL_law 483 = .ok (.iaload, 1) := by decide +kernel
theorem dL_law_484 : decode cL_law 484 = .ok (.aload_n 0, 1) := by decide +kernel
theorem dL_law_485 : decode cL_law 485 = .ok (.iload_n 3, 1) := by decide +kernel
theorem dL_law_486 : decode cL_law 486 = .ok (.iconst 2, 1) := by decide +kernel
theorem dL_law_487 : decode cL_law 487 = .ok (.iadd, 1) := by decide +kernel
theorem dL_law_488 : decode cL_law 488 = .ok (.iaload, 1) := by decide +kernel
theorem dL_law_489 : decode cL_law 489 = .ok (.invokevirtual 59, 3) := by decide +kernel
theorem dL_law_492 : decode cL_law 492 = .ok (.pop, 1) := by decide +kernel
theorem dL_law_493 : decode cL_law 493 = .ok (.goto 859, 3) := by decide +kernel
theorem dL_law_496 : decode cL_law 496 = .ok (.aload_n 1, 1) := by decide +kernel
theorem dL_law_497 : decode cL_law 497 = .ok (.invokevirtual 60, 3) := by decide +kernel
theorem dL_law_500 : decode cL_law 500 = .ok (.pop, 1) := by decide +kernel
theorem dL_law_501 : decode cL_law 501 = .ok (.aload_n 2, 1) := by decide +kernel
theorem dL_law_502 : decode cL_law 502 = .ok (.invokevirtual 63, 3) := by decide +kernel
theorem dL_law_505 : decode cL_law 505 = .ok (.pop, 1) := by decide +kernel
theorem dL_law_506 : decode cL_law 506 = .ok (.goto 846, 3) := by decide +kernel
theorem dL_law_509 : decode cL_law 509 = .ok (.aload_n 1, 1) := by decide +kernel
theorem dL_law_510 : decode cL_law 510 = .ok (.aload_n 0, 1) := by decide +kernel
theorem dL_law_511 : decode cL_law 511 = .ok (.iload_n 3, 1) := by decide +kernel
theorem dL_law_512 : decode cL_law 512 = .ok (.iconst 1, 1) := by decide +kernel
theorem dL_law_513 : decode cL_law 513 = .ok (.iadd, 1) := by decide +kernel
theorem dL_law_514 : decode cL_law 514 = .ok (.iaload, 1) := by decide +kernel
theorem dL_law_515 : decode cL_law 515 = .ok (.aload_n 0, 1) := by decide +kernel
theorem dL_law_516 : decode cL_law 516 = .ok (.iload_n 3, 1) := by decide +kernel
theorem dL_law_517 : decode cL_law 517 = .ok (.iconst 2, 1) := by decide +kernel
theorem dL_law_518 : decode cL_law 518 = .ok (.iadd, 1) := by decide +kernel
theorem dL_law_519 : decode cL_law 519 = .ok (.iaload, 1) := by decide +kernel
theorem dL_law_520 : decode cL_law 520 = .ok (.aload_n 0, 1) := by decide +kernel
theorem dL_law_521 : decode cL_law 521 = .ok (.iload_n 3, 1) := by decide +kernel
theorem dL_law_522 : decode cL_law 522 = .ok (.iconst 3, 1) := by decide +kernel
theorem dL_law_523 : decode cL_law 523 = .ok (.iadd, 1) := by decide +kernel
theorem dL_law_524 : decode cL_law 524 = .ok (.iaload, 1) := by decide +kernel
theorem dL_law_525 : decode cL_law 525 = .ok (.invokevirtual 64, 3) := by decide +kernel
theorem dL_law_528 : decode cL_law 528 = .ok (.pop, 1) := by decide +kernel
theorem dL_law_529 : decode cL_law 529 = .ok (.aload_n 2, 1) := by decide +kernel
theorem dL_law_530 : decode cL_law 530 = .ok (.aload_n 0, 1) := by decide +kernel
theorem dL_law_531 : decode cL_law 531 = .ok (.iload_n 3, 1) := by decide +kernel
theorem dL_law_532 : decode cL_law 532 = .ok (.iconst 1, 1) := by decide +kernel
theorem dL_law_533 : decode cL_law 533 = .ok (.iadd, 1) := by decide +kernel
theorem dL_law_534 : decode cL_law 534 = .ok (.iaload, 1) := by decide +kernel
theorem dL_law_535 : decode cL_law 535 = .ok (.aload_n 0, 1) := by decide +kernel
theorem dL_law_536 : decode cL_law 536 = .ok (.iload_n 3, 1) := by decide +kernel
theorem dL_law_537 : decode cL_law 537 = .ok (.iconst 2, 1) := by decide +kernel
theorem dL_law_538 : decode cL_law 538 = .ok (.iadd, 1) := by decide +kernel
theorem dL_law_539 : decode cL_law 539 = .ok (.iaload, 1) := by decide +kernel
theorem dL_law_540 : decode cL_law 540 = .ok (.aload_n 0, 1) := by decide +kernel
theorem dL_law_541 : decode cL_law 541 = .ok (.iload_n 3, 1) := by decide +kernel
theorem dL_law_542 : decode cL_law 542 = .ok (.iconst 3, 1) := by decide +kernel
theorem dL_law_543 : decode cL_law 543 = .ok (.iadd, 1) := by decide +kernel
theorem dL_law_544 : decode cL_law 544 = .ok (.iaload, 1) := by decide +kernel
theorem dL_law_545 : decode cL_law 545 = .ok (.invokevirtual 68, 3) := by decide +kernel
theorem dL_law_548 : decode cL_law 548 = .ok (.pop, 1) := by decide +kernel
theorem dL_law_549 : decode cL_law 549 = .ok (.goto 803, 3) := by decide +kernel
theorem dL_law_552 : decode cL_law 552 = .ok (.aload_n 1, 1) := by decide +kernel
theorem dL_law_553 : decode cL_law 553 = .ok (.aload_n 0, 1) := by decide +kernel
theorem dL_law_554 : decode cL_law 554 = .ok (.iload_n 3, 1) := by decide +kernel
theorem dL_law_555 : decode cL_law 555 = .ok (.iconst 1, 1) := by decide +kernel
theorem dL_law_556 : decode cL_law 556 = .ok (.iadd, 1) := by decide +kernel
theorem dL_law_557 : decode cL_law 557 = .ok (.iaload, 1) := by decide +kernel
theorem dL_law_558 : decode cL_law 558 = .ok (.aload_n 0, 1) := by decide +kernel
theorem dL_law_559 : decode cL_law 559 = .ok (.iload_n 3, 1) := by decide +kernel
theorem dL_law_560 : decode cL_law 560 = .ok (.iconst 2, 1) := by decide +kernel
theorem dL_law_561 : decode cL_law 561 = .ok (.iadd, 1) := by decide +kernel
theorem dL_law_562 : decode cL_law 562 = .ok (.iaload, 1) := by decide +kernel
theorem dL_law_563 : decode cL_law 563 = .ok (.aload_n 0, 1) := by decide +kernel
theorem dL_law_564 : decode cL_law 564 = .ok (.iload_n 3, 1) := by decide +kernel
theorem dL_law_565 : decode cL_law 565 = .ok (.iconst 3, 1) := by decide +kernel
theorem dL_law_566 : decode cL_law 566 = .ok (.iadd, 1) := by decide +kernel
theorem dL_law_567 : decode cL_law 567 = .ok (.iaload, 1) := by decide +kernel
theorem dL_law_568 : decode cL_law 568 = .ok (.invokevirtual 69, 3) := by decide +kernel
theorem dL_law_571 : decode cL_law 571 = .ok (.pop2, 1) := by decide +kernel
theorem dL_law_572 : decode cL_law 572 = .ok (.aload_n 2, 1) := by decide +kernel
theorem dL_law_573 : decode cL_law 573 = .ok (.aload_n 0, 1) := by decide +kernel
theorem dL_law_574 : decode cL_law 574 = .ok (.iload_n 3, 1) := by decide +kernel
theorem dL_law_575 : decode cL_law 575 = .ok (.iconst 1, 1) := by decide +kernel
theorem dL_law_576 : decode cL_law 576 = .ok (.iadd, 1) := by decide +kernel
theorem dL_law_577 : decode cL_law 577 = .ok (.iaload, 1) := by decide +kernel
theorem dL_law_578 : decode cL_law 578 = .ok (.aload_n 0, 1) := by decide +kernel
theorem dL_law_579 : decode cL_law 579 = .ok (.iload_n 3, 1) := by decide +kernel
theorem dL_law_580 : decode cL_law 580 = .ok (.iconst 2, 1) := by decide +kernel
theorem dL_law_581 : decode cL_law 581 = .ok (.iadd, 1) := by decide +kernel
theorem dL_law_582 : decode cL_law 582 = .ok (.iaload, 1) := by decide +kernel
theorem dL_law_583 : decode cL_law 583 = .ok (.aload_n 0, 1) := by decide +kernel
theorem dL_law_584 : decode cL_law 584 = .ok (.iload_n 3, 1) := by decide +kernel
theorem dL_law_585 : decode cL_law 585 = .ok (.iconst 3, 1) := by decide +kernel
theorem dL_law_586 : decode cL_law 586 = .ok (.iadd, 1) := by decide +kernel
theorem dL_law_587 : decode cL_law 587 = .ok (.iaload, 1) := by decide +kernel
theorem dL_law_588 : decode cL_law 588 = .ok (.invokevirtual 73, 3) := by decide +kernel
theorem dL_law_591 : decode cL_law 591 = .ok (.pop2, 1) := by decide +kernel
theorem dL_law_592 : decode cL_law 592 = .ok (.goto 760, 3) := by decide +kernel
theorem dL_law_595 : decode cL_law 595 = .ok (.aload_n 1, 1) := by decide +kernel
theorem dL_law_596 : decode cL_law 596 = .ok (.aload_n 0, 1) := by decide +kernel
theorem dL_law_597 : decode cL_law 597 = .ok (.iload_n 3, 1) := by decide +kernel
theorem dL_law_598 : decode cL_law 598 = .ok (.iconst 1, 1) := by decide +kernel
theorem dL_law_599 : decode cL_law 599 = .ok (.iadd, 1) := by decide +kernel
theorem dL_law_600 : decode cL_law 600 = .ok (.iaload, 1) := by decide +kernel
theorem dL_law_601 : decode cL_law 601 = .ok (.aload_n 0, 1) := by decide +kernel
theorem dL_law_602 : decode cL_law 602 = .ok (.iload_n 3, 1) := by decide +kernel
theorem dL_law_603 : decode cL_law 603 = .ok (.iconst 2, 1) := by decide +kernel
theorem dL_law_604 : decode cL_law 604 = .ok (.iadd, 1) := by decide +kernel
theorem dL_law_605 : decode cL_law 605 = .ok (.iaload, 1) := by decide +kernel
theorem dL_law_606 : decode cL_law 606 = .ok (.invokevirtual 74, 3) := by decide +kernel
theorem dL_law_609 : decode cL_law 609 = .ok (.pop2, 1) := by decide +kernel
theorem dL_law_610 : decode cL_law 610 = .ok (.aload_n 2, 1) := by decide +kernel
theorem dL_law_611 : decode cL_law 611 = .ok (.aload_n 0, 1) := by decide +kernel
theorem dL_law_612 : decode cL_law 612 = .ok (.iload_n 3, 1) := by decide +kernel
theorem dL_law_613 : decode cL_law 613 = .ok (.iconst 1, 1) := by decide +kernel
theorem dL_law_614 : decode cL_law 614 = .ok (.iadd, 1) := by decide +kernel
theorem dL_law_615 : decode cL_law 615 = .ok (.iaload, 1) := by decide +kernel
theorem dL_law_616 : decode cL_law 616 = .ok (.aload_n 0, 1) := by decide +kernel
theorem dL_law_617 : decode cL_law 617 = .ok (.iload_n 3, 1) := by decide +kernel
theorem dL_law_618 : decode cL_law 618 = .ok (.iconst 2, 1) := by decide +kernel
theorem dL_law_619 : decode cL_law 619 = .ok (.iadd, 1) := by decide +kernel
theorem dL_law_620 : decode cL_law 620 = .ok (.iaload, 1) := by decide +kernel
theorem dL_law_621 : decode cL_law 621 = .ok (.invokevirtual 78, 3) := by decide +kernel
theorem dL_law_624 : decode cL_law 624 = .ok (.pop2, 1) := by decide +kernel
theorem dL_law_625 : decode cL_law 625 = .ok (.goto 727, 3) := by decide +kernel
theorem dL_law_628 : decode cL_law 628 = .ok (.aload_n 1, 1) := by decide +kernel
theorem dL_law_629 : decode cL_law 629 = .ok (.aload_n 0, 1) := by decide +kernel
theorem dL_law_630 : decode cL_law 630 = .ok (.iload_n 3, 1) := by decide +kernel
theorem dL_law_631 : decode cL_law 631 = .ok (.iconst 1, 1) := by decide +kernel
theorem dL_law_632 : decode cL_law 632 = .ok (.iadd, 1) := by decide +kernel
theorem dL_law_633 : decode cL_law 633 = .ok (.iaload, 1) := by decide +kernel
theorem dL_law_634 : decode cL_law 634 = .ok (.invokevirtual 79, 3) := by decide +kernel
theorem dL_law_637 : decode cL_law 637 = .ok (.pop, 1) := by decide +kernel
theorem dL_law_638 : decode cL_law 638 = .ok (.aload_n 2, 1) := by decide +kernel
theorem dL_law_639 : decode cL_law 639 = .ok (.aload_n 0, 1) := by decide +kernel
theorem dL_law_640 : decode cL_law 640 = .ok (.iload_n 3, 1) := by decide +kernel
theorem dL_law_641 : decode cL_law 641 = .ok (.iconst 1, 1) := by decide +kernel
theorem dL_law_642 : decode cL_law 642 = .ok (.iadd, 1) := by decide +kernel
theorem dL_law_643 : decode cL_law 643 = .ok (.iaload, 1) := by decide +kernel
theorem dL_law_644 : decode cL_law 644 = .ok (.invokevirtual 82, 3) := by decide +kernel
theorem dL_law_647 : decode cL_law 647 = .ok (.pop, 1) := by decide +kernel
theorem dL_law_648 : decode cL_law 648 = .ok (.goto 704, 3) := by decide +kernel
theorem dL_law_651 : decode cL_law 651 = .ok (.aload_n 1, 1) := by decide +kernel
theorem dL_law_652 : decode cL_law 652 = .ok (.invokevirtual 83, 3) := by decide +kernel
theorem dL_law_655 : decode cL_law 655 = .ok (.pop, 1) := by decide +kernel
theorem dL_law_656 : decode cL_law 656 = .ok (.aload_n 2, 1) := by decide +kernel
theorem dL_law_657 : decode cL_law 657 = .ok (.invokevirtual 86, 3) := by decide +kernel
theorem dL_law_660 : decode cL_law 660 = .ok (.pop, 1) := by decide +kernel
theorem dL_law_661 : decode cL_law 661 = .ok (.goto 691, 3) := by decide +kernel
theorem dL_law_664 : decode cL_law 664 = .ok (.aload_n 1, 1) := by decide +kernel
theorem dL_law_665 : decode cL_law 665 = .ok (.aload_n 0, 1) := by decide +kernel
theorem dL_law_666 : decode cL_law 666 = .ok (.iload_n 3, 1) := by decide +kernel
theorem dL_law_667 : decode cL_law 667 = .ok (.iconst 1, 1) := by decide +kernel
theorem dL_law_668 : decode cL_law 668 = .ok (.iadd, 1) := by decide +kernel
theorem dL_law_669 : decode cL_law 669 = .ok (.iaload, 1) := by decide +kernel
theorem dL_law_670 : decode cL_law 670 = .ok (.invokevirtual 87, 3) := by decide +kernel
theorem dL_law_673 : decode cL_law 673 = .ok (.pop, 1) := by decide +kernel
theorem dL_law_674 : decode cL_law 674 = .ok (.aload_n 2, 1) := by decide +kernel
theorem dL_law_675 : decode cL_law 675 = .ok (.aload_n 0, 1) := by decide +kernel
theorem dL_law_676 : decode cL_law 676 = .ok (.iload_n 3, 1) := by decide +kernel
theorem dL_law_677 : decode cL_law 677 = .ok (.iconst 1, 1) := by decide +kernel
theorem dL_law_678 : decode cL_law 678 = .ok (.iadd, 1) := by decide +kernel
theorem dL_law_679 : decode cL_law 679 = .ok (.iaload, 1) := by decide +kernel
theorem dL_law_680 : decode cL_law 680 = .ok (.invokevirtual 90, 3) := by decide +kernel
theorem dL_law_683 : decode cL_law 683 = .ok (.pop, 1) := by decide +kernel
theorem dL_law_684 : decode cL_law 684 = .ok (.goto 668, 3) := by decide +kernel
theorem dL_law_687 : decode cL_law 687 = .ok (.aload_n 1, 1) := by decide +kernel
theorem dL_law_688 : decode cL_law 688 = .ok (.aload_n 0, 1) := by decide +kernel
theorem dL_law_689 : decode cL_law 689 = .ok (.iload_n 3, 1) := by decide +kernel
theorem dL_law_690 : decode cL_law 690 = .ok (.iconst 1, 1) := by decide +kernel
theorem dL_law_691 : decode cL_law 691 = .ok (.iadd, 1) := by decide +kernel
theorem dL_law_692 : decode cL_law 692 = .ok (.iaload, 1) := by decide +kernel
theorem dL_law_693 : decode cL_law 693 = .ok (.aload_n 0, 1) := by decide +kernel
theorem dL_law_694 : decode cL_law 694 = .ok (.iload_n 3, 1) := by decide +kernel
theorem dL_law_695 : decode cL_law 695 = .ok (.iconst 2, 1) := by decide +kernel
theorem dL_law_696 : decode cL_law 696 = .ok (.iadd, 1) := by decide +kernel
theorem dL_law_697 : decode cL_law 697 = .ok (.iaload, 1) := by decide +kernel
theorem dL_law_698 : decode cL_law 698 = .ok (.invokevirtual 91, 3) := by decide +kernel
theorem dL_law_701 : decode cL_law 701 = .ok (.pop, 1) := by decide +kernel
theorem dL_law_702 : decode cL_law 702 = .ok (.aload_n 2, 1) := by decide +kernel
theorem dL_law_703 : decode cL_law 703 = .ok (.aload_n 0, 1) := by decide +kernel
theorem dL_law_704 : decode cL_law 704 = .ok (.iload_n 3, 1) := by decide +kernel
theorem dL_law_705 : decode cL_law 705 = .ok (.iconst 1, 1) := by decide +kernel
theorem dL_law_706 : decode cL_law 706 = .ok (.iadd, 1) := by decide +kernel
theorem dL_law_707 : decode cL_law 707 = .ok (.iaload, 1) := by decide +kernel
theorem dL_law_708 : decode cL_law 708 = .ok (.aload_n 0, 1) := by decide +kernel
theorem dL_law_709 : decode cL_law 709 = .ok (.iload_n 3, 1) := by decide +kernel
theorem dL_law_710 : decode cL_law 710 = .ok (.iconst 2, 1) := by decide +kernel
theorem dL_law_711 : decode cL_law 711 = .ok (.iadd, 1) := by decide +kernel
theorem dL_law_712 : decode cL_law 712 = .ok (.iaload, 1) := by decide +kernel
theorem dL_law_713 : decode cL_law 713 = .ok (.invokevirtual 94, 3) := by decide +kernel
theorem dL_law_716 : decode cL_law 716 = .ok (.pop, 1) := by decide +kernel
theorem dL_law_717 : decode cL_law 717 = .ok (.goto 635, 3) := by decide +kernel
theorem dL_law_720 : decode cL_law 720 = .ok (.aload_n 1, 1) := by decide +kernel
theorem dL_law_721 : decode cL_law 721 = .ok (.aload_n 0, 1) := by decide +kernel
theorem dL_law_722 : decode cL_law 722 = .ok (.iload_n 3, 1) := by decide +kernel
theorem dL_law_723 : decode cL_law 723 = .ok (.iconst 1, 1) := by decide +kernel
theorem dL_law_724 : decode cL_law 724 = .ok (.iadd, 1) := by decide +kernel
theorem dL_law_725 : decode cL_law 725 = .ok (.iaload, 1) := by decide +kernel
theorem dL_law_726 : decode cL_law 726 = .ok (.invokevirtual 95, 3) := by decide +kernel
theorem dL_law_729 : decode cL_law 729 = .ok (.pop, 1) := by decide +kernel
theorem dL_law_730 : decode cL_law 730 = .ok (.aload_n 2, 1) := by decide +kernel
theorem dL_law_731 : decode cL_law 731 = .ok (.aload_n 0, 1) := by decide +kernel
theorem dL_law_732 : decode cL_law 732 = .ok (.iload_n 3, 1) := by decide +kernel
theorem dL_law_733 : decode cL_law 733 = .ok (.iconst 1, 1) := by decide +kernel
theorem dL_law_734 : decode cL_law 734 = .ok (.iadd, 1) := by decide +kernel
theorem dL_law_735 : decode cL_law 735 = .ok (.iaload, 1) := by decide +kernel
theorem dL_law_736 : decode cL_law 736 = .ok (.invokevirtual 98, 3) := by decide +kernel
theorem dL_law_739 : decode cL_law 739 = .ok (.pop, 1) := by decide +kernel
theorem dL_law_740 : decode cL_law 740 = .ok (.goto 612, 3) := by decide +kernel
theorem dL_law_743 : decode cL_law 743 = .ok (.aload_n 1, 1) := by decide +kernel
theorem dL_law_744 : decode cL_law 744 = .ok (.invokevirtual 99, 3) := by decide +kernel
theorem dL_law_747 : decode cL_law 747 = .ok (.pop, 1) := by decide +kernel
theorem dL_law_748 : decode cL_law 748 = .ok (.aload_n 2, 1) := by decide +kernel
theorem dL_law_749 : decode cL_law 749 = .ok (.invokevirtual 102, 3) := by decide +kernel
theorem dL_law_752 : decode cL_law 752 = .ok (.pop, 1) := by decide +kernel
theorem dL_law_753 : decode cL_law 753 = .ok (.goto 599, 3) := by decide +kernel
theorem dL_law_756 : decode cL_law 756 = .ok (.aload_n 1, 1) := by decide +kernel
theorem dL_law_757 : decode cL_law 757 = .ok (.aload_n 0, 1) := by decide +kernel
theorem dL_law_758 : decode cL_law 758 = .ok (.iload_n 3, 1) := by decide +kernel
theorem dL_law_759 : decode cL_law 759 = .ok (.iconst 1, 1) := by decide +kernel
theorem dL_law_760 : decode cL_law 760 = .ok (.iadd, 1) := by decide +kernel
theorem dL_law_761 : decode cL_law 761 = .ok (.iaload, 1) := by decide +kernel
theorem dL_law_762 : decode cL_law 762 = .ok (.invokevirtual 103, 3) := by decide +kernel
theorem dL_law_765 : decode cL_law 765 = .ok (.pop, 1) := by decide +kernel
theorem dL_law_766 : decode cL_law 766 = .ok (.aload_n 2, 1) := by decide +kernel
theorem dL_law_767 : decode cL_law 767 = .ok (.aload_n 0, 1) := by decide +kernel
theorem dL_law_768 : decode cL_law 768 = .ok (.iload_n 3, 1) := by decide +kernel
theorem dL_law_769 : decode cL_law 769 = .ok (.iconst 1, 1) := by decide +kernel
theorem dL_law_770 : decode cL_law 770 = .ok (.iadd, 1) := by decide +kernel
theorem dL_law_771 : decode cL_law 771 = .ok (.iaload, 1) := by decide +kernel
theorem dL_law_772 : decode cL_law 772 = .ok (.invokevirtual 106, 3) := by decide +kernel
theorem dL_law_775 : decode cL_law 775 = .ok (.pop, 1) := by decide +kernel
theorem dL_law_776 : decode cL_law 776 = .ok (.goto 576, 3) := by decide +kernel
theorem dL_law_779 : decode cL_law 779 = .ok (.aload_n 1, 1) := by decide +kernel
theorem dL_law_780 : decode cL_law 780 = .ok (.aload_n 0, 1) := by decide +kernel
theorem dL_law_781 : decode cL_law 781 = .ok (.iload_n 3, 1) := by decide +kernel
theorem dL_law_782 : decode cL_law 782 = .ok (.iconst 1, 1) := by decide +kernel
theorem dL_law_783 : decode cL_law 783 = .ok (.iadd, 1) := by decide +kernel
theorem dL_law_784 : decode cL_law 784 = .ok (.iaload, 1) := by decide +kernel
theorem dL_law_785 : decode cL_law 785 = .ok (.aload_n 0, 1) := by decide +kernel
theorem dL_law_786 : decode cL_law 786 = .ok (.iload_n 3, 1) := by decide +kernel
theorem dL_law_787 : decode cL_law 787 = .ok (.iconst 2, 1) := by decide +kernel
theorem dL_law_788 : decode cL_law 788 = .ok (.iadd, 1) := by decide +kernel
theorem dL_law_789 : decode cL_law 789 = .ok (.iaload, 1) := by decide +kernel
theorem dL_law_790 : decode cL_law 790 = .ok (.invokevirtual 107, 3) := by decide +kernel
theorem dL_law_793 : decode cL_law 793 = .ok (.pop, 1) := by decide +kernel
theorem dL_law_794 : decode cL_law 794 = .ok (.aload_n 2, 1) := by decide +kernel
theorem dL_law_795 : decode cL_law 795 = .ok (.aload_n 0, 1) := by decide +kernel
theorem dL_law_796 : decode cL_law 796 = .ok (.iload_n 3, 1) := by decide +kernel
theorem dL_law_797 : decode cL_law 797 = .ok (.iconst 1, 1) := by decide +kernel
theorem dL_law_798 : decode cL_law 798 = .ok (.iadd, 1) := by decide +kernel
theorem dL_law_799 : decode cL_law 799 = .ok (.iaload, 1) := by decide +kernel
theorem dL_law_800 : decode cL_law 800 = .ok (.aload_n 0, 1) := by decide +kernel
theorem dL_law_801 : decode cL_law 801 = .ok (.iload_n 3, 1) := by decide +kernel
theorem dL_law_802 : decode cL_law 802 = .ok (.iconst 2, 1) := by decide +kernel
theorem dL_law_803 : decode cL_law 803 = .ok (.iadd, 1) := by decide +kernel
theorem dL_law_804 : decode cL_law 804 = .ok (.iaload, 1) := by decide +kernel
theorem dL_law_805 : decode cL_law 805 = .ok (.invokevirtual 110, 3) := by decide +kernel
theorem dL_law_808 : decode cL_law 808 = .ok (.pop, 1) := by decide +kernel
theorem dL_law_809 : decode cL_law 809 = .ok (.goto 543, 3) := by decide +kernel
theorem dL_law_812 : decode cL_law 812 = .ok (.aload_n 1, 1) := by decide +kernel
theorem dL_law_813 : decode cL_law 813 = .ok (.aload_n 0, 1) := by decide +kernel
theorem dL_law_814 : decode cL_law 814 = .ok (.iload_n 3, 1) := by decide +kernel
theorem dL_law_815 : decode cL_law 815 = .ok (.iconst 1, 1) := by decide +kernel
theorem dL_law_816 : decode cL_law 816 = .ok (.iadd, 1) := by decide +kernel
theorem dL_law_817 : decode cL_law 817 = .ok (.iaload, 1) := by decide +kernel
theorem dL_law_818 : decode cL_law 818 = .ok (.invokevirtual 111, 3) := by decide +kernel
theorem dL_law_821 : decode cL_law 821 = .ok (.pop, 1) := by decide +kernel
theorem dL_law_822 : decode cL_law 822 = .ok (.aload_n 2, 1) := by decide +kernel
theorem dL_law_823 : decode cL_law 823 = .ok (.aload_n 0, 1) := by decide +kernel
theorem dL_law_824 : decode cL_law 824 = .ok (.iload_n 3, 1) := by decide +kernel
theorem dL_law_825 : decode cL_law 825 = .ok (.iconst 1, 1) := by decide +kernel
theorem dL_law_826 : decode cL_law 826 = .ok (.iadd, 1) := by decide +kernel
theorem dL_law_827 : decode cL_law 827 = .ok (.iaload, 1) := by decide +kernel
theorem dL_law_828 : decode cL_law 828 = .ok (.invokevirtual 114, 3) := by decide +kernel
theorem dL_law_831 : decode cL_law 831 = .ok (.pop, 1) := by decide +kernel
theorem dL_law_832 : decode cL_law 832 = .ok (.goto 520, 3) := by decide +kernel
theorem dL_law_835 : decode cL_law 835 = .ok (.aload_n 1, 1) := by decide +kernel
theorem dL_law_836 : decode cL_law 836 = .ok (.aload_n 0, 1) := by decide +kernel
theorem dL_law_837 : decode cL_law 837 = .ok (.iload_n 3, 1) := by decide +kernel
theorem dL_law_838 : decode cL_law 838 = .ok (.iconst 1, 1) := by decide +kernel
theorem dL_law_839 : decode cL_law 839 = .ok (.iadd, 1) := by decide +kernel
theorem dL_law_840 : decode cL_law 840 = .ok (.iaload, 1) := by decide +kernel
theorem dL_law_841 : decode cL_law 841 = .ok (.aload_n 0, 1) := by decide +kernel
theorem dL_law_842 : decode cL_law 842 = .ok (.iload_n 3, 1) := by decide +kernel
theorem dL_law_843 : decode cL_law 843 = .ok (.iconst 2, 1) := by decide +kernel
theorem dL_law_844 : decode cL_law 844 = .ok (.iadd, 1) := by decide +kernel
theorem dL_law_845 : decode cL_law 845 = .ok (.iaload, 1) := by decide +kernel
theorem dL_law_846 : decode cL_law 846 = .ok (.aload_n 0, 1) := by decide +kernel
theorem dL_law_847 : decode cL_law 847 = .ok (.iload_n 3, 1) := by decide +kernel
theorem dL_law_848 : decode cL_law 848 = .ok (.iconst 3, 1) := by decide +kernel
theorem dL_law_849 : decode cL_law 849 = .ok (.iadd, 1) := by decide +kernel
theorem dL_law_850 : decode cL_law 850 = .ok (.iaload, 1) := by decide +kernel
theorem dL_law_851 : decode cL_law 851 = .ok (.ifCond .eq 7, 3) := by decide +kernel
theorem dL_law_854 : decode cL_law 854 = .ok (.iconst 1, 1) := by decide +kernel
theorem dL_law_855 : decode cL_law 855 = .ok (.goto 4, 3) := by decide +kernel
theorem dL_law_858 : decode cL_law 858 = .ok (.iconst 0, 1) := by decide +kernel
theorem dL_law_859 : decode cL_law 859 = .ok (.aload_n 0, 1) := by decide +kernel
theorem dL_law_860 : decode cL_law 860 = .ok (.iload_n 3, 1) := by decide +kernel
theorem dL_law_861 : decode cL_law 861 = .ok (.iconst 4, 1) := by decide +kernel
theorem dL_law_862 : decode cL_law 862 = .ok (.iadd, 1) := by decide +kernel
theorem dL_law_863 : decode cL_law 863 = .ok (.iaload, 1) := by decide +kernel
theorem dL_law_864 : decode cL_law 864 = .ok (.invokevirtual 115, 3) := by decide +kernel
theorem dL_law_867 : decode cL_law 867 = .ok (.pop, 1) := by decide +kernel
theorem dL_law_868 : decode cL_law 868 = .ok (.aload_n 2, 1) := by decide +kernel
theorem dL_law_869 : decode cL_law 869 = .ok (.aload_n 0, 1) := by decide +kernel
theorem dL_law_870 : decode cL_law 870 = .ok (.iload_n 3, 1) := by decide +kernel
theorem dL_law_871 : decode cL_law 871 = .ok (.iconst 1, 1) := by decide +kernel
theorem dL_law_872 : decode cL_law 872 = .ok (.iadd, 1) := by decide +kernel
theorem dL_law_873 : decode cL_law 873 = .ok (.iaload, 1) := by decide +kernel
theorem dL_law_874 : decode cL_law 874 = .ok (.aload_n 0, 1) := by decide +kernel
theorem dL_law_875 : decode cL_law 875 = .ok (.iload_n 3, 1) := by decide +kernel
theorem dL_law_876 : decode cL_law 876 = .ok (.iconst 2, 1) := by decide +kernel
theorem dL_law_877 : decode cL_law 877 = .ok (.iadd, 1) := by decide +kernel
theorem dL_law_878 : decode cL_law 878 = .ok (.iaload, 1) := by decide +kernel
theorem dL_law_879 : decode cL_law 879 = .ok (.aload_n 0, 1) := by decide +kernel
theorem dL_law_880 : decode cL_law 880 = .ok (.iload_n 3, 1) := by decide +kernel
theorem dL_law_881 : decode cL_law 881 = .ok (.iconst 3, 1) := by decide +kernel
theorem dL_law_882 : decode cL_law 882 = .ok (.iadd, 1) := by decide +kernel
theorem dL_law_883 : decode cL_law 883 = .ok (.iaload, 1) := by decide +kernel
theorem dL_law_884 : decode cL_law 884 = .ok (.ifCond .eq 7, 3) := by decide +kernel
theorem dL_law_887 : decode cL_law 887 = .ok (.iconst 1, 1) := by decide +kernel
theorem dL_law_888 : decode cL_law 888 = .ok (.goto 4, 3) := by decide +kernel
theorem dL_law_891 : decode cL_law 891 = .ok (.iconst 0, 1) := by decide +kernel
theorem dL_law_892 : decode cL_law 892 = .ok (.aload_n 0, 1) := by decide +kernel
theorem dL_law_893 : decode cL_law 893 = .ok (.iload_n 3, 1) := by decide +kernel
theorem dL_law_894 : decode cL_law 894 = .ok (.iconst 4, 1) := by decide +kernel
theorem dL_law_895 : decode cL_law 895 = .ok (.iadd, 1) := by decide +kernel
theorem dL_law_896 : decode cL_law 896 = .ok (.iaload, 1) := by decide +kernel
theorem dL_law_897 : decode cL_law 897 = .ok (.invokevirtual 119, 3) := by decide +kernel
theorem dL_law_900 : decode cL_law 900 = .ok (.pop, 1) := by decide +kernel
theorem dL_law_901 : decode cL_law 901 = .ok (.goto 451, 3) := by decide +kernel
theorem dL_law_904 : decode cL_law 904 = .ok (.aload_n 1, 1) := by decide +kernel
theorem dL_law_905 : decode cL_law 905 = .ok (.aload_n 0, 1) := by decide +kernel
theorem dL_law_906 : decode cL_law 906 = .ok (.iload_n 3, 1) := by decide +kernel
theorem dL_law_907 : decode cL_law 907 = .ok (.iconst 1, 1) := by decide +kernel
theorem dL_law_908 : decode cL_law 908 = .ok (.iadd, 1) := by decide +kernel
theorem dL_law_909 : decode cL_law 909 = .ok (.iaload, 1) := by decide +kernel
theorem dL_law_910 : decode cL_law 910 = .ok (.invokevirtual 120, 3) := by decide +kernel
theorem dL_law_913 : decode cL_law 913 = .ok (.pop, 1) := by decide +kernel
theorem dL_law_914 : decode cL_law 914 = .ok (.aload_n 2, 1) := by decide +kernel
theorem dL_law_915 : decode cL_law 915 = .ok (.aload_n 0, 1) := by decide +kernel
theorem dL_law_916 : decode cL_law 916 = .ok (.iload_n 3, 1) := by decide +kernel
theorem dL_law_917 : decode cL_law 917 = .ok (.iconst 1, 1) := by decide +kernel
theorem dL_law_918 : decode cL_law 918 = .ok (.iadd, 1) := by decide +kernel
theorem dL_law_919 : decode cL_law 919 = .ok (.iaload, 1) := by decide +kernel
theorem dL_law_920 : decode cL_law 920 = .ok (.invokevirtual 123, 3) := by decide +kernel
theorem dL_law_923 : decode cL_law 923 = .ok (.pop, 1) := by decide +kernel
theorem dL_law_924 : decode cL_law 924 = .ok (.goto 428, 3) := by decide +kernel
theorem dL_law_927 : decode cL_law 927 = .ok (.aload_n 1, 1) := by decide +kernel
theorem dL_law_928 : decode cL_law 928 = .ok (.aload_n 0, 1) := by decide +kernel
theorem dL_law_929 : decode cL_law 929 = .ok (.iload_n 3, 1) := by decide +kernel
theorem dL_law_930 : decode cL_law 930 = .ok (.iconst 1, 1) := by decide +kernel
theorem dL_law_931 : decode cL_law 931 = .ok (.iadd, 1) := by decide +kernel
theorem dL_law_932 : decode cL_law 932 = .ok (.iaload, 1) := by decide +kernel
theorem dL_law_933 : decode cL_law 933 = .ok (.aload_n 0, 1) := by decide +kernel
theorem dL_law_934 : decode cL_law 934 = .ok (.iload_n 3, 1) := by decide +kernel
theorem dL_law_935 : decode cL_law 935 = .ok (.iconst 2, 1) := by decide +kernel
theorem dL_law_936 : decode cL_law 936 = .ok (.iadd, 1) := by decide +kernel
theorem dL_law_937 : decode cL_law 937 = .ok (.iaload, 1) := by decide +kernel
theorem dL_law_938 : decode cL_law 938 = .ok (.ifCond .eq 7, 3) := by decide +kernel
theorem dL_law_941 : decode cL_law 941 = .ok (.iconst 1, 1) := by decide +kernel
theorem dL_law_942 : decode cL_law 942 = .ok (.goto 4, 3) := by decide +kernel
theorem dL_law_945 : decode cL_law 945 = .ok (.iconst 0, 1) := by decide +kernel
theorem dL_law_946 : decode cL_law 946 = .ok (.invokevirtual 124, 3) := by decide +kernel
theorem dL_law_949 : decode cL_law 949 = .ok (.pop, 1) := by decide +kernel
theorem dL_law_950 : decode cL_law 950 = .ok (.aload_n 2, 1) := by decide +kernel
theorem dL_law_951 : decode cL_law 951 = .ok (.aload_n 0, 1) := by decide +kernel
theorem dL_law_952 : decode cL_law 952 = .ok (.iload_n 3, 1) := by decide +kernel
theorem dL_law_953 : decode cL_law 953 = .ok (.iconst 1, 1) := by decide +kernel
theorem dL_law_954 : decode cL_law 954 = .ok (.iadd, 1) := by decide +kernel
theorem dL_law_955 : decode cL_law 955 = .ok (.iaload, 1) := by decide +kernel
theorem dL_law_956 : decode cL_law 956 = .ok (.aload_n 0, 1) := by decide +kernel
theorem dL_law_957 : decode cL_law 957 = .ok (.iload_n 3, 1) := by decide +kernel
theorem dL_law_958 : decode cL_law 958 = .ok (.iconst 2, 1) := by decide +kernel
theorem dL_law_959 : decode cL_law 959 = .ok (.iadd, 1) := by decide +kernel
theorem dL_law_960 : decode cL_law 960 = .ok (.iaload, 1) := by decide +kernel
theorem dL_law_961 : decode cL_law 961 = .ok (.ifCond .eq 7, 3) := by decide +kernel
theorem dL_law_964 : decode cL_law 964 = .ok (.iconst 1, 1) := by decide +kernel
theorem dL_law_965 : decode cL_law 965 = .ok (.goto 4, 3) := by decide +kernel
theorem dL_law_968 : decode cL_law 968 = .ok (.iconst 0, 1) := by decide +kernel
theorem dL_law_969 : decode cL_law 969 = .ok (.invokevirtual 127, 3) := by decide +kernel
theorem dL_law_972 : decode cL_law 972 = .ok (.pop, 1) := by decide +kernel
theorem dL_law_973 : decode cL_law 973 = .ok (.goto 379, 3) := by decide +kernel
theorem dL_law_976 : decode cL_law 976 = .ok (.aload_n 1, 1) := by decide +kernel
theorem dL_law_977 : decode cL_law 977 = .ok (.aload_n 0, 1) := by decide +kernel
theorem dL_law_978 : decode cL_law 978 = .ok (.iload_n 3, 1) := by decide +kernel
theorem dL_law_979 : decode cL_law 979 = .ok (.iconst 1, 1) := by decide +kernel
theorem dL_law_980 : decode cL_law 980 = .ok (.iadd, 1) := by decide +kernel
theorem dL_law_981 : decode cL_law 981 = .ok (.iaload, 1) := by decide +kernel
theorem dL_law_982 : decode cL_law 982 = .ok (.aload_n 0, 1) := by decide +kernel
theorem dL_law_983 : decode cL_law 983 = .ok (.iload_n 3, 1) := by decide +kernel
theorem dL_law_984 : decode cL_law 984 = .ok (.iconst 2, 1) := by decide +kernel
theorem dL_law_985 : decode cL_law 985 = .ok (.iadd, 1) := by decide +kernel
theorem dL_law_986 : decode cL_law 986 = .ok (.iaload, 1) := by decide +kernel
theorem dL_law_987 : decode cL_law 987 = .ok (.invokevirtual 128, 3) := by decide +kernel
theorem dL_law_990 : decode cL_law 990 = .ok (.pop, 1) := by decide +kernel
theorem dL_law_991 : decode cL_law 991 = .ok (.aload_n 2, 1) := by decide +kernel
theorem dL_law_992 : decode cL_law 992 = .ok (.aload_n 0, 1) := by decide +kernel
theorem dL_law_993 : decode cL_law 993 = .ok (.iload_n 3, 1) := by decide +kernel
theorem dL_law_994 : decode cL_law 994 = .ok (.iconst 1, 1) := by decide +kernel
theorem dL_law_995 : decode cL_law 995 = .ok (.iadd, 1) := by decide +kernel
theorem dL_law_996 : decode cL_law 996 = .ok (.iaload, 1) := by decide +kernel
theorem dL_law_997 : decode cL_law 997 = .ok (.aload_n 0, 1) := by decide +kernel
theorem dL_law_998 : decode cL_law 998 = .ok (.iload_n 3, 1) := by decide +kernel
theorem dL_law_999 : decode cL_law 999 = .ok (.iconst 2, 1) := by decide +kernel
theorem dL_law_1000 : decode cL_law 1000 = .ok (.iadd, 1) := by decide +kernel
theorem dL_law_1001 : decode cL_law 1001 = .ok (.iaload, 1) := by decide +kernel
theorem dL_law_1002 : decode cL_law 1002 = .ok (.invokevirtual 131, 3) := by decide +kernel
theorem dL_law_1005 : decode cL_law 1005 = .ok (.pop, 1) := by decide +kernel
theorem dL_law_1006 : decode cL_law 1006 = .ok (.goto 346, 3) := by decide +kernel
theorem dL_law_1009 : decode cL_law 1009 = .ok (.aload_n 1, 1) := by decide +kernel
theorem dL_law_1010 : decode cL_law 1010 = .ok (.invokevirtual 132, 3) := by decide +kernel
theorem dL_law_1013 : decode cL_law 1013 = .ok (.pop, 1) := by decide +kernel
theorem dL_law_1014 : decode cL_law 1014 = .ok (.aload_n 2, 1) := by decide +kernel
theorem dL_law_1015 : decode cL_law 1015 = .ok (.invokevirtual 135, 3) := by decide +kernel
theorem dL_law_1018 : decode cL_law 1018 = .ok (.pop, 1) := by decide +kernel
theorem dL_law_1019 : decode cL_law 1019 = .ok (.goto 333, 3) := by decide +kernel
theorem dL_law_1022 : decode cL_law 1022 = .ok (.aload_n 1, 1) := by decide +kernel
theorem dL_law_1023 : decode cL_law 1023 = .ok (.aload_n 0, 1) := by decide +kernel
theorem dL_law_1024 : decode cL_law 1024 = .ok (.iload_n 3, 1) := by decide +kernel
theorem dL_law_1025 : decode cL_law 1025 = .ok (.iconst 1, 1) := by decide +kernel
theorem dL_law_1026 : decode cL_law 1026 = .ok (.iadd, 1) := by decide +kernel
theorem dL_law_1027 : decode cL_law 1027 = .ok (.iaload, 1) := by decide +kernel
theorem dL_law_1028 : decode cL_law 1028 = .ok (.aload_n 0, 1) := by decide +kernel
theorem dL_law_1029 : decode cL_law 1029 = .ok (.iload_n 3, 1) := by decide +kernel
theorem dL_law_1030 : decode cL_law 1030 = .ok (.iconst 2, 1) := by decide +kernel
theorem dL_law_1031 : decode cL_law 1031 = .ok (.iadd, 1) := by decide +kernel
theorem dL_law_1032 : decode cL_law 1032 = .ok (.iaload, 1) := by decide +kernel
theorem dL_law_1033 : decode cL_law 1033 = .ok (.invokevirtual 136, 3) := by decide +kernel
theorem dL_law_1036 : decode cL_law 1036 = .ok (.pop2, 1) := by decide +kernel
theorem dL_law_1037 : decode cL_law 1037 = .ok (.aload_n 2, 1) := by decide +kernel
theorem dL_law_1038 : decode cL_law 1038 = .ok (.aload_n 0, 1) := by decide +kernel
theorem dL_law_1039 : decode cL_law 1039 = .ok (.iload_n 3, 1) := by decide +kernel
theorem dL_law_1040 : decode cL_law 1040 = .ok (.iconst 1, 1) := by decide +kernel
theorem dL_law_1041 : decode cL_law 1041 = .ok (.iadd, 1) := by decide +kernel
theorem dL_law_1042 : decode cL_law 1042 = .ok (.iaload, 1) := by decide +kernel
theorem dL_law_1043 : decode cL_law 1043 = .ok (.aload_n 0, 1) := by decide +kernel
theorem dL_law_1044 : decode cL_law 1044 = .ok (.iload_n 3, 1) := by decide +kernel
theorem dL_law_1045 : decode cL_law 1045 = .ok (.iconst 2, 1) := by decide +kernel
theorem dL_law_1046 : decode cL_law 1046 = .ok (.iadd, 1) := by decide +kernel
theorem dL_law_1047 : decode cL_law 1047 = .ok (.iaload, 1) := by decide +kernel
theorem dL_law_1048 : decode cL_law 1048 = .ok (.invokevirtual 139, 3) := by decide +kernel
theorem dL_law_1051 : decode cL_law 1051 = .ok (.pop2, 1) := by decide +kernel
theorem dL_law_1052 : decode cL_law 1052 = .ok (.goto 300, 3) := by decide +kernel
theorem dL_law_1055 : decode cL_law 1055 = .ok (.aload_n 1, 1) := by decide +kernel
theorem dL_law_1056 : decode cL_law 1056 = .ok (.aload_n 0, 1) := by decide +kernel
theorem dL_law_1057 : decode cL_law 1057 = .ok (.iload_n 3, 1) := by decide +kernel
theorem dL_law_1058 : decode cL_law 1058 = .ok (.iconst 1, 1) := by decide +kernel
theorem dL_law_1059 : decode cL_law 1059 = .ok (.iadd, 1) := by decide +kernel
theorem dL_law_1060 : decode cL_law 1060 = .ok (.iaload, 1) := by decide +kernel
theorem dL_law_1061 : decode cL_law 1061 = .ok (.aload_n 0, 1) := by decide +kernel
theorem dL_law_1062 : decode cL_law 1062 = .ok (.iload_n 3, 1) := by decide +kernel
theorem dL_law_1063 : decode cL_law 1063 = .ok (.iconst 2, 1) := by decide +kernel
theorem dL_law_1064 : decode cL_law 1064 = .ok (.iadd, 1) := by decide +kernel
theorem dL_law_1065 : decode cL_law 1065 = .ok (.iaload, 1) := by decide +kernel
theorem dL_law_1066 : decode cL_law 1066 = .ok (.aload_n 0, 1) := by decide +kernel
theorem dL_law_1067 : decode cL_law 1067 = .ok (.iload_n 3, 1) := by decide +kernel
theorem dL_law_1068 : decode cL_law 1068 = .ok (.iconst 3, 1) := by decide +kernel
theorem dL_law_1069 : decode cL_law 1069 = .ok (.iadd, 1) := by decide +kernel
theorem dL_law_1070 : decode cL_law 1070 = .ok (.iaload, 1) := by decide +kernel
theorem dL_law_1071 : decode cL_law 1071 = .ok (.aload_n 0, 1) := by decide +kernel
theorem dL_law_1072 : decode cL_law 1072 = .ok (.iload_n 3, 1) := by decide +kernel
theorem dL_law_1073 : decode cL_law 1073 = .ok (.iconst 4, 1) := by decide +kernel
theorem dL_law_1074 : decode cL_law 1074 = .ok (.iadd, 1) := by decide +kernel
theorem dL_law_1075 : decode cL_law 1075 = .ok (.iaload, 1) := by decide +kernel
theorem dL_law_1076 : decode cL_law 1076 = .ok (.invokevirtual 140, 3) := by decide +kernel
theorem dL_law_1079 : decode cL_law 1079 = .ok (.pop2, 1) := by decide +kernel
theorem dL_law_1080 : decode cL_law 1080 = .ok (.aload_n 2, 1) := by decide +kernel
theorem dL_law_1081 : decode cL_law 1081 = .ok (.aload_n 0, 1) := by decide +kernel
theorem dL_law_1082 : decode cL_law 1082 = .ok (.iload_n 3, 1) := by decide +kernel
theorem dL_law_1083 : decode cL_law 1083 = .ok (.iconst 1, 1) := by decide +kernel
theorem dL_law_1084 : decode cL_law 1084 = .ok (.iadd, 1) := by decide +kernel
theorem dL_law_1085 : decode cL_law 1085 = .ok (.iaload, 1) := by decide +kernel
theorem dL_law_1086 : decode cL_law 1086 = .ok (.aload_n 0, 1) := by decide +kernel
theorem dL_law_1087 : decode cL_law 1087 = .ok (.iload_n 3, 1) := by decide +kernel
theorem dL_law_1088 : decode cL_law 1088 = .ok (.iconst 2, 1) := by decide +kernel
theorem dL_law_1089 : decode cL_law 1089 = .ok (.iadd, 1) := by decide +kernel
theorem dL_law_1090 : decode cL_law 1090 = .ok (.iaload, 1) := by decide +kernel
theorem dL_law_1091 : decode cL_law 1091 = .ok (.aload_n 0, 1) := by decide +kernel
theorem dL_law_1092 : decode cL_law 1092 = .ok (.iload_n 3, 1) := by decide +kernel
theorem dL_law_1093 : decode cL_law 1093 = .ok (.iconst 3, 1) := by decide +kernel
theorem dL_law_1094 : decode cL_law 1094 = .ok (.iadd, 1) := by decide +kernel
theorem dL_law_1095 : decode cL_law 1095 = .ok (.iaload, 1) := by decide +kernel
theorem dL_law_1096 : decode cL_law 1096 = .ok (.aload_n 0, 1) := by decide +kernel
theorem dL_law_1097 : decode cL_law 1097 = .ok (.iload_n 3, 1) := by decide +kernel
theorem dL_law_1098 : decode cL_law 1098 = .ok (.iconst 4, 1) := by decide +kernel
theorem dL_law_1099 : decode cL_law 1099 = .ok (.iadd, 1) := by decide +kernel
theorem dL_law_1100 : decode cL_law 1100 = .ok (.iaload, 1) := by decide +kernel
theorem dL_law_1101 : decode cL_law 1101 = .ok (.invokevirtual 144, 3) := by decide +kernel
theorem dL_law_1104 : decode cL_law 1104 = .ok (.pop2, 1) := by decide +kernel
theorem dL_law_1105 : decode cL_law 1105 = .ok (.goto 247, 3) := by decide +kernel
theorem dL_law_1108 : decode cL_law 1108 = .ok (.aload_n 1, 1) := by decide +kernel
theorem dL_law_1109 : decode cL_law 1109 = .ok (.aload_n 0, 1) := by decide +kernel
theorem dL_law_1110 : decode cL_law 1110 = .ok (.iload_n 3, 1) := by decide +kernel
theorem dL_law_1111 : decode cL_law 1111 = .ok (.iconst 1, 1) := by decide +kernel
theorem dL_law_1112 : decode cL_law 1112 = .ok (.iadd, 1) := by decide +kernel
theorem dL_law_1113 : decode cL_law 1113 = .ok (.iaload, 1) := by decide +kernel
theorem dL_law_1114 : decode cL_law 1114 = .ok (.invokevirtual 145, 3) := by decide +kernel
theorem dL_law_1117 : decode cL_law 1117 = .ok (.pop, 1) := by decide +kernel
theorem dL_law_1118 : decode cL_law 1118 = .ok (.aload_n 2, 1) := by decide +kernel
theorem dL_law_1119 : decode cL_law 1119 = .ok (.aload_n 0, 1) := by decide +kernel
theorem dL_law_1120 : decode cL_law 1120 = .ok (.iload_n 3, 1) := by decide +kernel
theorem dL_law_1121 : decode cL_law 1121 = .ok (.iconst 1, 1) := by decide +kernel
theorem dL_law_1122 : decode cL_law 1122 = .ok (.iadd, 1) := by decide +kernel
theorem dL_law_1123 : decode cL_law 1123 = .ok (.iaload, 1) := by decide +kernel
theorem dL_law_1124 : decode cL_law 1124 = .ok (.invokevirtual 148, 3) := by decide +kernel
theorem dL_law_1127 : decode cL_law 1127 = .ok (.pop, 1) := by decide +kernel
theorem dL_law_1128 : decode cL_law 1128 = .ok (.goto 224, 3) := by decide +kernel
theorem dL_law_1131 : decode cL_law 1131 = .ok (.aload_n 1, 1) := by decide +kernel
theorem dL_law_1132 : decode cL_law 1132 = .ok (.aload_n 0, 1) := by decide +kernel
theorem dL_law_1133 : decode cL_law 1133 = .ok (.iload_n 3, 1) := by decide +kernel
theorem dL_law_1134 : decode cL_law 1134 = .ok (.iconst 1, 1) := by decide +kernel
theorem dL_law_1135 : decode cL_law 1135 = .ok (.iadd, 1) := by decide +kernel
theorem dL_law_1136 : decode cL_law 1136 = .ok (.iaload, 1) := by decide +kernel
theorem dL_law_1137 : decode cL_law 1137 = .ok (.invokevirtual 149, 3) := by decide +kernel
theorem dL_law_1140 : decode cL_law 1140 = .ok (.pop, 1) := by decide +kernel
theorem dL_law_1141 : decode cL_law 1141 = .ok (.aload_n 2, 1) := by decide +kernel
theorem dL_law_1142 : decode cL_law 1142 = .ok (.aload_n 0, 1) := by decide +kernel
theorem dL_law_1143 : decode cL_law 1143 = .ok (.iload_n 3, 1) := by decide +kernel
theorem dL_law_1144 : decode cL_law 1144 = .ok (.iconst 1, 1) := by decide +kernel
theorem dL_law_1145 : decode cL_law 1145 = .ok (.iadd, 1) := by decide +kernel
theorem dL_law_1146 : decode cL_law 1146 = .ok (.iaload, 1) := by decide +kernel
theorem dL_law_1147 : decode cL_law 1147 = .ok (.invokevirtual 152, 3) := by decide +kernel
theorem dL_law_1150 : decode cL_law 1150 = .ok (.pop, 1) := by decide +kernel
theorem dL_law_1151 : decode cL_law 1151 = .ok (.goto 201, 3) := by decide +kernel
theorem dL_law_1154 : decode cL_law 1154 = .ok (.aload_n 1, 1) := by decide +kernel
theorem dL_law_1155 : decode cL_law 1155 = .ok (.aload_n 0, 1) := by decide +kernel
theorem dL_law_1156 : decode cL_law 1156 = .ok (.iload_n 3, 1) := by decide +kernel
theorem dL_law_1157 : decode cL_law 1157 = .ok (.iconst 1, 1) := by decide +kernel
theorem dL_law_1158 : decode cL_law 1158 = .ok (.iadd, 1) := by decide +kernel
theorem dL_law_1159 : decode cL_law 1159 = .ok (.iaload, 1) := by decide +kernel
theorem dL_law_1160 : decode cL_law 1160 = .ok (.invokevirtual 153, 3) := by decide +kernel
theorem dL_law_1163 : decode cL_law 1163 = .ok (.pop, 1) := by decide +kernel
theorem dL_law_1164 : decode cL_law 1164 = .ok (.aload_n 2, 1) := by decide +kernel
theorem dL_law_1165 : decode cL_law 1165 = .ok (.aload_n 0, 1) := by decide +kernel
theorem dL_law_1166 : decode cL_law 1166 = .ok (.iload_n 3, 1) := by decide +kernel
theorem dL_law_1167 : decode cL_law 1167 = .ok (.iconst 1, 1) := by decide +kernel
theorem dL_law_1168 : decode cL_law 1168 = .ok (.iadd, 1) := by decide +kernel
theorem dL_law_1169 : decode cL_law 1169 = .ok (.iaload, 1) := by decide +kernel
theorem dL_law_1170 : decode cL_law 1170 = .ok (.invokevirtual 156, 3) := by decide +kernel
theorem dL_law_1173 : decode cL_law 1173 = .ok (.pop, 1) := by decide +kernel
theorem dL_law_1174 : decode cL_law 1174 = .ok (.goto 178, 3) := by decide +kernel
theorem dL_law_1177 : decode cL_law 1177 = .ok (.aload_n 1, 1) := by decide +kernel
theorem dL_law_1178 : decode cL_law 1178 = .ok (.aload_n 0, 1) := by decide +kernel
theorem dL_law_1179 : decode cL_law 1179 = .ok (.iload_n 3, 1) := by decide +kernel
theorem dL_law_1180 : decode cL_law 1180 = .ok (.iconst 1, 1) := by decide +kernel
theorem dL_law_1181 : decode cL_law 1181 = .ok (.iadd, 1) := by decide +kernel
theorem dL_law_1182 : decode cL_law 1182 = .ok (.iaload, 1) := by decide +kernel
theorem dL_law_1183 : decode cL_law 1183 = .ok (.aload_n 0, 1) := by decide +kernel
theorem dL_law_1184 : decode cL_law 1184 = .ok (.iload_n 3, 1) := by decide +kernel
theorem dL_law_1185 : decode cL_law 1185 = .ok (.iconst 2, 1) := by decide +kernel
theorem dL_law_1186 : decode cL_law 1186 = .ok (.iadd, 1) := by decide +kernel
theorem dL_law_1187 : decode cL_law 1187 = .ok (.iaload, 1) := by decide +kernel
theorem dL_law_1188 : decode cL_law 1188 = .ok (.aload_n 0, 1) := by decide +kernel
theorem dL_law_1189 : decode cL_law 1189 = .ok (.iload_n 3, 1) := by decide +kernel
theorem dL_law_1190 : decode cL_law 1190 = .ok (.iconst 3, 1) := by decide +kernel
theorem dL_law_1191 : decode cL_law 1191 = .ok (.iadd, 1) := by decide +kernel
theorem dL_law_1192 : decode cL_law 1192 = .ok (.iaload, 1) := by decide +kernel
theorem dL_law_1193 : decode cL_law 1193 = .ok (.invokevirtual 157, 3) := by decide +kernel
theorem dL_law_1196 : decode cL_law 1196 = .ok (.pop, 1) := by decide +kernel
theorem dL_law_1197 : decode cL_law 1197 = .ok (.aload_n 2, 1) := by decide +kernel
theorem dL_law_1198 : decode cL_law 1198 = .ok (.aload_n 0, 1) := by decide +kernel
theorem dL_law_1199 : decode cL_law 1199 = .ok (.iload_n 3, 1) := by decide +kernel
theorem dL_law_1200 : decode cL_law 1200 = .ok (.iconst 1, 1) := by decide +kernel
theorem dL_law_1201 : decode cL_law 1201 = .ok (.iadd, 1) := by decide +kernel
theorem dL_law_1202 : decode cL_law 1202 = .ok (.iaload, 1) := by decide +kernel
theorem dL_law_1203 : decode cL_law 1203 = .ok (.aload_n 0, 1) := by decide +kernel
theorem dL_law_1204 : decode cL_law 1204 = .ok (.iload_n 3, 1) := by decide +kernel
theorem dL_law_1205 : decode cL_law 1205 = .ok (.iconst 2, 1) := by decide +kernel
theorem dL_law_1206 : decode cL_law 1206 = .ok (.iadd, 1) := by decide +kernel
theorem dL_law_1207 : decode cL_law 1207 = .ok (.iaload, 1) := by decide +kernel
theorem dL_law_1208 : decode cL_law 1208 = .ok (.aload_n 0, 1) := by decide +kernel
theorem dL_law_1209 : decode cL_law 1209 = .ok (.iload_n 3, 1) := by decide +kernel
theorem dL_law_1210 : decode cL_law 1210 = .ok (.iconst 3, 1) := by decide +kernel
theorem dL_law_1211 : decode cL_law 1211 = .ok (.iadd, 1) := by decide +kernel
theorem dL_law_1212 : decode cL_law 1212 = .ok (.iaload, 1) := by decide +kernel
theorem dL_law_1213 : decode cL_law 1213 = .ok (.invokevirtual 160, 3) := by decide +kernel
theorem dL_law_1216 : decode cL_law 1216 = .ok (.pop, 1) := by decide +kernel
theorem dL_law_1217 : decode cL_law 1217 = .ok (.goto 135, 3) := by decide +kernel
theorem dL_law_1220 : decode cL_law 1220 = .ok (.aload_n 1, 1) := by decide +kernel
theorem dL_law_1221 : decode cL_law 1221 = .ok (.aload_n 0, 1) := by decide +kernel
theorem dL_law_1222 : decode cL_law 1222 = .ok (.iload_n 3, 1) := by decide +kernel
theorem dL_law_1223 : decode cL_law 1223 = .ok (.iconst 1, 1) := by decide +kernel
theorem dL_law_1224 : decode cL_law 1224 = .ok (.iadd, 1) := by decide +kernel
theorem dL_law_1225 : decode cL_law 1225 = .ok (.iaload, 1) := by decide +kernel
theorem dL_law_1226 : decode cL_law 1226 = .ok (.aload_n 0, 1) := by decide +kernel
theorem dL_law_1227 : decode cL_law 1227 = .ok (.iload_n 3, 1) := by decide +kernel
theorem dL_law_1228 : decode cL_law 1228 = .ok (.iconst 2, 1) := by decide +kernel
theorem dL_law_1229 : decode cL_law 1229 = .ok (.iadd, 1) := by decide +kernel
theorem dL_law_1230 : decode cL_law 1230 = .ok (.iaload, 1) := by decide +kernel
theorem dL_law_1231 : decode cL_law 1231 = .ok (.aload_n 0, 1) := by decide +kernel
theorem dL_law_1232 : decode cL_law 1232 = .ok (.iload_n 3, 1) := by decide +kernel
theorem dL_law_1233 : decode cL_law 1233 = .ok (.iconst 3, 1) := by decide +kernel
theorem dL_law_1234 : decode cL_law 1234 = .ok (.iadd, 1) := by decide +kernel
theorem dL_law_1235 : decode cL_law 1235 = .ok (.iaload, 1) := by decide +kernel
theorem dL_law_1236 : decode cL_law 1236 = .ok (.invokevirtual 161, 3) := by decide +kernel
theorem dL_law_1239 : decode cL_law 1239 = .ok (.pop, 1) := by decide +kernel
theorem dL_law_1240 : decode cL_law 1240 = .ok (.aload_n 2, 1) := by decide +kernel
theorem dL_law_1241 : decode cL_law 1241 = .ok (.aload_n 0, 1) := by decide +kernel
theorem dL_law_1242 : decode cL_law 1242 = .ok (.iload_n 3, 1) := by decide +kernel
theorem dL_law_1243 : decode cL_law 1243 = .ok (.iconst 1, 1) := by decide +kernel
theorem dL_law_1244 : decode cL_law 1244 = .ok (.iadd, 1) := by decide +kernel
theorem dL_law_1245 : decode cL_law 1245 = .ok (.iaload, 1) := by decide +kernel
theorem dL_law_1246 : decode cL_law 1246 = .ok (.aload_n 0, 1) := by decide +kernel
theorem dL_law_1247 : decode cL_law 1247 = .ok (.iload_n 3, 1) := by decide +kernel
theorem dL_law_1248 : decode cL_law 1248 = .ok (.iconst 2, 1) := by decide +kernel
theorem dL_law_1249 : decode cL_law 1249 = .ok (.iadd, 1) := by decide +kernel
theorem dL_law_1250 : decode cL_law 1250 = .ok (.iaload, 1) := by decide +kernel
theorem dL_law_1251 : decode cL_law 1251 = .ok (.aload_n 0, 1) := by decide +kernel
theorem dL_law_1252 : decode cL_law 1252 = .ok (.iload_n 3, 1) := by decide +kernel
theorem dL_law_1253 : decode cL_law 1253 = .ok (.iconst 3, 1) := by decide +kernel
theorem dL_law_1254 : decode cL_law 1254 = .ok (.iadd, 1) := by decide +kernel
theorem dL_law_1255 : decode cL_law 1255 = .ok (.iaload, 1) := by decide +kernel
theorem dL_law_1256 : decode cL_law 1256 = .ok (.invokevirtual 164, 3) := by decide +kernel
theorem dL_law_1259 : decode cL_law 1259 = .ok (.pop, 1) := by decide +kernel
theorem dL_law_1260 : decode cL_law 1260 = .ok (.goto 92, 3) := by decide +kernel
theorem dL_law_1263 : decode cL_law 1263 = .ok (.aload_n 1, 1) := by decide +kernel
theorem dL_law_1264 : decode cL_law 1264 = .ok (.aload_n 0, 1) := by decide +kernel
theorem dL_law_1265 : decode cL_law 1265 = .ok (.iload_n 3, 1) := by decide +kernel
theorem dL_law_1266 : decode cL_law 1266 = .ok (.iconst 1, 1) := by decide +kernel
theorem dL_law_1267 : decode cL_law 1267 = .ok (.iadd, 1) := by decide +kernel
theorem dL_law_1268 : decode cL_law 1268 = .ok (.iaload, 1) := by decide +kernel
theorem dL_law_1269 : decode cL_law 1269 = .ok (.aload_n 0, 1) := by decide +kernel
theorem dL_law_1270 : decode cL_law 1270 = .ok (.iload_n 3, 1) := by decide +kernel
theorem dL_law_1271 : decode cL_law 1271 = .ok (.iconst 2, 1) := by decide +kernel
theorem dL_law_1272 : decode cL_law 1272 = .ok (.iadd, 1) := by decide +kernel
theorem dL_law_1273 : decode cL_law 1273 = .ok (.iaload, 1) := by decide +kernel
theorem dL_law_1274 : decode cL_law 1274 = .ok (.aload_n 0, 1) := by decide +kernel
theorem dL_law_1275 : decode cL_law 1275 = .ok (.iload_n 3, 1) := by decide +kernel
theorem dL_law_1276 : decode cL_law 1276 = .ok (.iconst 3, 1) := by decide +kernel
theorem dL_law_1277 : decode cL_law 1277 = .ok (.iadd, 1) := by decide +kernel
theorem dL_law_1278 : decode cL_law 1278 = .ok (.iaload, 1) := by decide +kernel
theorem dL_law_1279 : decode cL_law 1279 = .ok (.aload_n 0, 1) := by decide +kernel
theorem dL_law_1280 : decode cL_law 1280 = .ok (.iload_n 3, 1) := by decide +kernel
theorem dL_law_1281 : decode cL_law 1281 = .ok (.iconst 4, 1) := by decide +kernel
theorem dL_law_1282 : decode cL_law 1282 = .ok (.iadd, 1) := by decide +kernel
theorem dL_law_1283 : decode cL_law 1283 = .ok (.iaload, 1) := by decide +kernel
theorem dL_law_1284 : decode cL_law 1284 = .ok (.invokevirtual 165, 3) := by decide +kernel
theorem dL_law_1287 : decode cL_law 1287 = .ok (.pop, 1) := by decide +kernel
theorem dL_law_1288 : decode cL_law 1288 = .ok (.aload_n 2, 1) := by decide +kernel
theorem dL_law_1289 : decode cL_law 1289 = .ok (.aload_n 0, 1) := by decide +kernel
theorem dL_law_1290 : decode cL_law 1290 = .ok (.iload_n 3, 1) := by decide +kernel
theorem dL_law_1291 : decode cL_law 1291 = .ok (.iconst 1, 1) := by decide +kernel
theorem dL_law_1292 : decode cL_law 1292 = .ok (.iadd, 1) := by decide +kernel
theorem dL_law_1293 : decode cL_law 1293 = .ok (.iaload, 1) := by decide +kernel
theorem dL_law_1294 : decode cL_law 1294 = .ok (.aload_n 0, 1) := by decide +kernel
theorem dL_law_1295 : decode cL_law 1295 = .ok (.iload_n 3, 1) := by decide +kernel
theorem dL_law_1296 : decode cL_law 1296 = .ok (.iconst 2, 1) := by decide +kernel
theorem dL_law_1297 : decode cL_law 1297 = .ok (.iadd, 1) := by decide +kernel
theorem dL_law_1298 : decode cL_law 1298 = .ok (.iaload, 1) := by decide +kernel
theorem dL_law_1299 : decode cL_law 1299 = .ok (.aload_n 0, 1) := by decide +kernel
theorem dL_law_1300 : decode cL_law 1300 = .ok (.iload_n 3, 1) := by decide +kernel
theorem dL_law_1301 : decode cL_law 1301 = .ok (.iconst 3, 1) := by decide +kernel
theorem dL_law_1302 : decode cL_law 1302 = .ok (.iadd, 1) := by decide +kernel
theorem dL_law_1303 : decode cL_law 1303 = .ok (.iaload, 1) := by decide +kernel
theorem dL_law_1304 : decode cL_law 1304 = .ok (.aload_n 0, 1) := by decide +kernel
theorem dL_law_1305 : decode cL_law 1305 = .ok (.iload_n 3, 1) := by decide +kernel
theorem dL_law_1306 : decode cL_law 1306 = .ok (.iconst 4, 1) := by decide +kernel
theorem dL_law_1307 : decode cL_law 1307 = .ok (.iadd, 1) := by decide +kernel
theorem dL_law_1308 : decode cL_law 1308 = .ok (.iaload, 1) := by decide +kernel
theorem dL_law_1309 : decode cL_law 1309 = .ok (.invokevirtual 169, 3) := by decide +kernel
theorem dL_law_1312 : decode cL_law 1312 = .ok (.pop, 1) := by decide +kernel
theorem dL_law_1313 : decode cL_law 1313 = .ok (.goto 39, 3) := by decide +kernel
theorem dL_law_1316 : decode cL_law 1316 = .ok (.aload_n 1, 1) := by decide +kernel
theorem dL_law_1317 : decode cL_law 1317 = .ok (.invokevirtual 170, 3) := by decide +kernel
theorem dL_law_1320 : decode cL_law 1320 = .ok (.pop, 1) := by decide +kernel
theorem dL_law_1321 : decode cL_law 1321 = .ok (.aload_n 2, 1) := by decide +kernel
theorem dL_law_1322 : decode cL_law 1322 = .ok (.invokevirtual 173, 3) := by decide +kernel
theorem dL_law_1325 : decode cL_law 1325 = .ok (.pop, 1) := by decide +kernel
theorem dL_law_1326 : decode cL_law 1326 = .ok (.goto 26, 3) := by decide +kernel
theorem dL_law_1329 : decode cL_law 1329 = .ok (.aload_n 1, 1) := by decide +kernel
theorem dL_law_1330 : decode cL_law 1330 = .ok (.aload_n 0, 1) := by decide +kernel
theorem dL_law_1331 : decode cL_law 1331 = .ok (.iload_n 3, 1) := by decide +kernel
theorem dL_law_1332 : decode cL_law 1332 = .ok (.iconst 1, 1) := by decide +kernel
theorem dL_law_1333 : decode cL_law 1333 = .ok (.iadd, 1) := by decide +kernel
theorem dL_law_1334 : decode cL_law 1334 = .ok (.iaload, 1) := by decide +kernel
theorem dL_law_1335 : decode cL_law 1335 = .ok (.invokevirtual 174, 3) := by decide +kernel
theorem dL_law_1338 : decode cL_law 1338 = .ok (.pop, 1) := by decide +kernel
theorem dL_law_1339 : decode cL_law 1339 = .ok (.aload_n 2, 1) := by decide +kernel
theorem dL_law_1340 : decode cL_law 1340 = .ok (.aload_n 0, 1) := by decide +kernel
theorem dL_law_1341 : decode cL_law 1341 = .ok (.iload_n 3, 1) := by decide +kernel
theorem dL_law_1342 : decode cL_law 1342 = .ok (.iconst 1, 1) := by decide +kernel
theorem dL_law_1343 : decode cL_law 1343 = .ok (.iadd, 1) := by decide +kernel
theorem dL_law_1344 : decode cL_law 1344 = .ok (.iaload, 1) := by decide +kernel
theorem dL_law_1345 : decode cL_law 1345 = .ok (.invokevirtual 177, 3) := by decide +kernel
theorem dL_law_1348 : decode cL_law 1348 = .ok (.pop, 1) := by decide +kernel
theorem dL_law_1349 : decode cL_law 1349 = .ok (.goto 3, 3) := by decide +kernel
theorem dL_law_1352 : decode cL_law 1352 = .ok (.iinc 3 5, 3) := by decide +kernel
theorem dL_law_1355 : decode cL_law 1355 = .ok (.goto (-1337), 3) := by decide +kernel
theorem dL_law_1358 : decode cL_law 1358 = .ok (.iconst 1, 1) := by decide +kernel
theorem dL_law_1359 : decode cL_law 1359 = .ok (.ireturn, 1) := by decide +kernel
/-- the law's own method, the two objects made -/
abbrev tw_ML : tw_T := (RL, cL_law, 4, some .boolean, room_1, 107, 3525)
/-- the sheets of both -/
def SR (τ : tw_M) : Prop := ((τ 80 1 = 0 ∧ τ 104 0 = -4) ∨ (τ 80 1 = 1 ∧ ¬ τ 104 0 = -4 ∧ τ 105 0 = τ 80 3)) ∧ ((τ 82 1 = 0 ∧ τ 104 1 = -4) ∨ (τ 82 1 = 1 ∧ ¬ τ 104 1 = -4 ∧ τ 105 1 = τ 82 3)) ∧ ((τ 84 1 = 0 ∧ τ 104 2 = -4) ∨ (τ 84 1 = 1 ∧ ¬ τ 104 2 = -4 ∧ τ 105 2 = τ 84 3)) ∧ ((τ 86 1 = 0 ∧ τ 104 3 = -4) ∨ (τ 86 1 = 1 ∧ ¬ τ 104 3 = -4 ∧ τ 105 3 = τ 86 3))
theorem SR_kept {σ τ : tw_M} (h : SR σ) (h1 : ∀ c j, (c = 80 ∨ c = 82 ∨ c = 84 ∨ c = 86) ∧ (j = 1 ∨ j = 3) → τ c j = σ c j) (h4 : ∀ j, τ 104 j = σ 104 j) (h5 : ∀ j, τ 105 j = σ 105 j) : SR τ := by
  unfold SR at h ⊢
  rw [h1 80 1 (by decide), h1 80 3 (by decide), h1 82 1 (by decide), h1 82 3 (by decide), h1 84 1 (by decide), h1 84 3 (by decide), h1 86 1 (by decide), h1 86 3 (by decide), h4, h4, h4, h4, h5, h5, h5, h5]
  exact h
/-- the tries of both -/
def TT (τ : tw_M) : Prop := τ 29 0 = τ 89 93 ∧ τ 30 0 = τ 89 94 ∧ τ 29 1 = τ 89 95 ∧ τ 30 1 = τ 89 96 ∧ τ 37 0 = τ 89 193 ∧ τ 38 0 = τ 89 194 ∧ τ 37 1 = τ 89 195 ∧ τ 38 1 = τ 89 196 ∧ τ 45 0 = τ 89 293 ∧ τ 46 0 = τ 89 294 ∧ τ 45 1 = τ 89 295 ∧ τ 46 1 = τ 89 296 ∧ (0 ≤ τ 89 94 ∧ τ 89 94 ≤ τ 89 93) ∧ (0 ≤ τ 89 96 ∧ τ 89 96 ≤ τ 89 95) ∧ (0 ≤ τ 89 194 ∧ τ 89 194 ≤ τ 89 193) ∧ (0 ≤ τ 89 196 ∧ τ 89 196 ≤ τ 89 195) ∧ (0 ≤ τ 89 294 ∧ τ 89 294 ≤ τ 89 293) ∧ (0 ≤ τ 89 296 ∧ τ 89 296 ≤ τ 89 295)
theorem TT_kept {σ τ : tw_M} (h : TT σ) (h1 : ∀ c j, (c = 29 ∨ c = 30 ∨ c = 37 ∨ c = 38 ∨ c = 45 ∨ c = 46) ∧ (j = 0 ∨ j = 1) → τ c j = σ c j) (h2 : ∀ j, j = 93 ∨ j = 94 ∨ j = 95 ∨ j = 96 ∨ j = 193 ∨ j = 194 ∨ j = 195 ∨ j = 196 ∨ j = 293 ∨ j = 294 ∨ j = 295 ∨ j = 296 → τ 89 j = σ 89 j) : TT τ := by
  unfold TT at h ⊢
  rw [h1 29 0 (by decide), h1 30 0 (by decide), h1 29 1 (by decide), h1 30 1 (by decide), h1 37 0 (by decide), h1 38 0 (by decide), h1 37 1 (by decide), h1 38 1 (by decide), h1 45 0 (by decide), h1 46 0 (by decide), h1 45 1 (by decide), h1 46 1 (by decide), h2 93 (by decide), h2 94 (by decide), h2 95 (by decide), h2 96 (by decide), h2 193 (by decide), h2 194 (by decide), h2 195 (by decide), h2 196 (by decide), h2 293 (by decide), h2 294 (by decide), h2 295 (by decide), h2 296 (by decide)]
  exact h
/-- what stands between the calls -/
def tw_LI (τ : tw_M) : Prop := mI τ ∧ τ 10 10 = τ 88 12 ∧ SR τ ∧ BY τ ∧ τ 0 13 = τ 88 17 ∧ τ 31 6 = τ 90 0 ∧ τ 39 6 = τ 90 1 ∧ TT τ ∧ ST τ
set_option maxHeartbeats 4000000 in
set_option maxRecDepth 100000 in
theorem w_case_0 {G : tw_G} (hX : tw_isX G) (hM : tw_isM G) {E : List Frame → Array Value → State → State → Prop} (hN : (gN G : Int) ≤ 2560) (i : Int) (hi : 0 ≤ i ∧ i + 5 ≤ (gN G : Int)) (τ : tw_M) (hIτ : tw_I τ) (hL : tw_LI τ) (K : ∀ τ' : tw_M, tw_I τ' → tw_LI τ' → tw_J G tw_ML E 1352 [(0, vR 300), (1, vR 0), (2, vR 88), (3, vI i)] [] τ') : tw_J G tw_ML E 200 [(0, vR 300), (1, vR 0), (2, vR 88), (3, vI i)] [] τ := by
  obtain ⟨mτ, zτ, sτ, bτ, fτ, kτ0, kτ1, tτ, stτ⟩ := hL
  have g9 : (0 : Int) ≤ τ 10 10 ∧ τ 10 10 ≤ 400 := hIτ 10 10
  obtain ⟨v1, ev1⟩ : ∃ v : Int, v = (gxs G (i + 1).toNat).toInt := ⟨_, rfl⟩
  have hv1 : (-2147483648 : Int) ≤ v1 ∧ v1 ≤ 2147483647 := by rw [ev1]; exact i32_in _
  obtain ⟨v2, ev2⟩ : ∃ v : Int, v = (gxs G (i + 2).toNat).toInt := ⟨_, rfl⟩
  have hv2 : (-2147483648 : Int) ≤ v2 ∧ v2 ≤ 2147483647 := by rw [ev2]; exact i32_in _
  obtain ⟨v3, ev3⟩ : ∃ v : Int, v = (gxs G (i + 3).toNat).toInt := ⟨_, rfl⟩
  have hv3 : (-2147483648 : Int) ≤ v3 ∧ v3 ≤ 2147483647 := by rw [ev3]; exact i32_in _
  obtain ⟨v4, ev4⟩ : ∃ v : Int, v = (gxs G (i + 4).toNat).toInt := ⟨_, rfl⟩
  have hv4 : (-2147483648 : Int) ≤ v4 ∧ v4 ≤ 2147483647 := by rw [ev4]; exact i32_in _
  refine j_aload_n (pc := 200) dL_law_200 rfl rfl ?_
  refine j_aload_n (pc := 201) dL_law_201 rfl rfl ?_
  refine j_iload_n (pc := 202) dL_law_202 rfl rfl ?_
  refine j_iconst (pc := 203) dL_law_203 ?_
  refine j_iadd (pc := 204) dL_law_204 ?_
  refine j_scrAt (pc := 205) dL_law_205 (by omega) (by omega) (by omega) ?_
  refine j_topV (show _ = v1 from ev1.symm) ?_
  refine j_i2l (pc := 206) dL_law_206 ?_
  rw [w32_eq (a := v1) (by omega) (by omega)]
  refine j_bipush (pc := 207) dL_law_207 rfl ?_
  refine j_lshl (pc := 209) dL_law_209 (fun z1 ez1 => ?_)
  have hz1 : (-9223372036854775808 : Int) ≤ z1 ∧ z1 ≤ 9223372036854775807 := by rw [ez1]; exact lshlL_in _ _
  refine j_aload_n (pc := 210) dL_law_210 rfl rfl ?_
  refine j_iload_n (pc := 211) dL_law_211 rfl rfl ?_
  refine j_iconst (pc := 212) dL_law_212 ?_
  refine j_iadd (pc := 213) dL_law_213 ?_
  refine j_scrAt (pc := 214) dL_law_214 (by omega) (by omega) (by omega) ?_
  refine j_topV (show _ = v2 from ev2.symm) ?_
  refine j_i2l (pc := 215) dL_law_215 ?_
  rw [w32_eq (a := v2) (by omega) (by omega)]
  refine j_ldc2 (pc := 216) (z := 4294967295) dL_law_216 (tw_inc tm_8 (i := 66) (by decide +kernel) (by decide +kernel)) ?_
  refine j_land (pc := 219) dL_law_219 (fun z2 ez2 => ?_)
  have hz2 : (-9223372036854775808 : Int) ≤ z2 ∧ z2 ≤ 9223372036854775807 := by rw [ez2]; exact landL_in _ _
  refine j_lor (pc := 220) dL_law_220 (fun z3 ez3 => ?_)
  have hz3 : (-9223372036854775808 : Int) ≤ z3 ∧ z3 ≤ 9223372036854775807 := by rw [ez3]; exact lorL_in _ _
  refine j_callV (pc := 221) (As := [vL z3]) (st := []) (c_X11_feed hX z3 ⟨by omega, by omega⟩ τ hIτ) mv_L_15 rfl rfl rfl (a_0 hX) dL_law_221 ⟨Nat.le_of_ble_eq_true rfl, Nat.le_of_ble_eq_true rfl⟩ ⟨Nat.le_of_ble_eq_true rfl, Nat.le_of_ble_eq_true rfl⟩ rfl (Nat.le_of_ble_eq_true rfl) rfl (fun z4 σ5 hz4 => ?_)
  obtain ⟨r7, rfl, hr7, hIσ5, hGσ5, q6_0, q6_1, q6_2⟩ := hz4
  replace q6_0 : (r7 = -3 ∧ 392 < τ 10 10 ∧ σ5 10 10 = τ 10 10) ∨ (r7 = τ 10 10 + 8 ∧ τ 10 10 ≤ 392 ∧ σ5 10 10 = τ 10 10 + 8) := q6_0
  replace q6_1 : ∀ j : Nat, (j : Int) < τ 10 10 → σ5 11 j = τ 11 j := q6_1
  replace q6_2 : r7 = -3 ∨ ∀ k : Nat, (k : Int) < 8 → tw_and (σ5 11 ((τ 10 10).toNat + k)) 255 = byt z3 k := q6_2
  refine j_st (st' := [vI r7]) rfl ?_
  have mσ5 : mI σ5 := mI_kept mτ (fun j hj => hGσ5 89 j (show ¬ ((89 = 10 ∧ (j = 10)) ∨ 89 = 11) from by omega)) (fun j => hGσ5 90 j (show ¬ ((90 = 10 ∧ (j = 10)) ∨ 90 = 11) from by omega)) (hGσ5 91 0 (show ¬ ((91 = 10 ∧ (0 = 10)) ∨ 91 = 11) from by omega)) hIτ
  have sσ5 : SR σ5 := SR_kept sτ (fun c j h => hGσ5 c j (show ¬ ((c = 10 ∧ (j = 10)) ∨ c = 11) from by omega)) (fun j => hGσ5 104 j (show ¬ ((104 = 10 ∧ (j = 10)) ∨ 104 = 11) from by omega)) (fun j => hGσ5 105 j (show ¬ ((105 = 10 ∧ (j = 10)) ∨ 105 = 11) from by omega))
  have tσ5 : TT σ5 := TT_kept tτ (fun c j h => hGσ5 c j (show ¬ ((c = 10 ∧ (j = 10)) ∨ c = 11) from by omega)) (fun j h => hGσ5 89 j (show ¬ ((89 = 10 ∧ (j = 10)) ∨ 89 = 11) from by omega))
  have stσ5 : ST σ5 := ST_F stτ (fun c j h => hGσ5 c j (show ¬ ((c = 10 ∧ (j = 10)) ∨ c = 11) from by unfold STR at h; omega))
  clear q6_1 q6_2
  refine j_pop (pc := 224) dL_law_224 rfl ?_
  refine j_aload_n (pc := 225) dL_law_225 rfl rfl ?_
  refine j_aload_n (pc := 226) dL_law_226 rfl rfl ?_
  refine j_iload_n (pc := 227) dL_law_227 rfl rfl ?_
  refine j_iconst (pc := 228) dL_law_228 ?_
  refine j_iadd (pc := 229) dL_law_229 ?_
  refine j_scrAt (pc := 230) dL_law_230 (by omega) (by omega) (by omega) ?_
  refine j_topV (show _ = v1 from ev1.symm) ?_
  refine j_i2l (pc := 231) dL_law_231 ?_
  rw [w32_eq (a := v1) (by omega) (by omega)]
  refine j_bipush (pc := 232) dL_law_232 rfl ?_
  refine j_lshl (pc := 234) dL_law_234 (fun z8 ez8 => ?_)
  have hz8 : (-9223372036854775808 : Int) ≤ z8 ∧ z8 ≤ 9223372036854775807 := by rw [ez8]; exact lshlL_in _ _
  refine j_aload_n (pc := 235) dL_law_235 rfl rfl ?_
  refine j_iload_n (pc := 236) dL_law_236 rfl rfl ?_
  refine j_iconst (pc := 237) dL_law_237 ?_
  refine j_iadd (pc := 238) dL_law_238 ?_
  refine j_scrAt (pc := 239) dL_law_239 (by omega) (by omega) (by omega) ?_
  refine j_topV (show _ = v2 from ev2.symm) ?_
  refine j_i2l (pc := 240) dL_law_240 ?_
  rw [w32_eq (a := v2) (by omega) (by omega)]
  refine j_ldc2 (pc := 241) (z := 4294967295) dL_law_241 (tw_inc tm_8 (i := 66) (by decide +kernel) (by decide +kernel)) ?_
  refine j_land (pc := 244) dL_law_244 (fun z9 ez9 => ?_)
  have hz9 : (-9223372036854775808 : Int) ≤ z9 ∧ z9 ≤ 9223372036854775807 := by rw [ez9]; exact landL_in _ _
  refine j_lor (pc := 245) dL_law_245 (fun z10 ez10 => ?_)
  have hz10 : (-9223372036854775808 : Int) ≤ z10 ∧ z10 ≤ 9223372036854775807 := by rw [ez10]; exact lorL_in _ _
  refine j_callV (pc := 246) (As := [vL z10]) (st := []) (c_X12_feed hM z10 ⟨by omega, by omega⟩ σ5 hIσ5) mv_L_19 rfl rfl rfl (a_88 hM) dL_law_246 ⟨Nat.le_of_ble_eq_true rfl, Nat.le_of_ble_eq_true rfl⟩ ⟨Nat.le_of_ble_eq_true rfl, Nat.le_of_ble_eq_true rfl⟩ rfl (Nat.le_of_ble_eq_true rfl) rfl (fun z11 σ12 hz11 => ?_)
  obtain ⟨r14, rfl, hr14, hIσ12, hGσ12, q13_0, q13_1, q13_2⟩ := hz11
  replace q13_0 : (r14 = -3 ∧ 392 < σ5 88 12 ∧ σ12 88 12 = σ5 88 12) ∨ (r14 = σ5 88 12 + 8 ∧ σ5 88 12 ≤ 392 ∧ σ12 88 12 = σ5 88 12 + 8) := q13_0
  have y15 : σ5 88 12 = τ 88 12 := (hGσ5 88 12 (show ¬ ((88 = 10 ∧ (12 = 10)) ∨ 88 = 11) from by omega))
  have f16 : (0 : Int) ≤ τ 88 12 ∧ τ 88 12 ≤ 400 := hIτ 88 12
  replace q13_1 : ∀ j : Nat, (j : Int) < σ5 88 12 → σ12 98 j = σ5 98 j := q13_1
  have y17 : σ5 88 12 = τ 88 12 := (hGσ5 88 12 (show ¬ ((88 = 10 ∧ (12 = 10)) ∨ 88 = 11) from by omega))
  replace q13_2 : r14 = -3 ∨ ∀ k : Nat, (k : Int) < 8 → σ12 98 ((σ5 88 12).toNat + k) = byt z10 k := q13_2
  have y18 : σ5 88 12 = τ 88 12 := (hGσ5 88 12 (show ¬ ((88 = 10 ∧ (12 = 10)) ∨ 88 = 11) from by omega))
  refine j_st (st' := [vI r14]) rfl ?_
  have mσ12 : mI σ12 := mI_kept mσ5 (fun j hj => hGσ12 89 j (show ¬ ((89 = 88 ∧ (j = 12)) ∨ 89 = 98) from by omega)) (fun j => hGσ12 90 j (show ¬ ((90 = 88 ∧ (j = 12)) ∨ 90 = 98) from by omega)) (hGσ12 91 0 (show ¬ ((91 = 88 ∧ (0 = 12)) ∨ 91 = 98) from by omega)) hIσ5
  have sσ12 : SR σ12 := SR_kept sσ5 (fun c j h => hGσ12 c j (show ¬ ((c = 88 ∧ (j = 12)) ∨ c = 98) from by omega)) (fun j => hGσ12 104 j (show ¬ ((104 = 88 ∧ (j = 12)) ∨ 104 = 98) from by omega)) (fun j => hGσ12 105 j (show ¬ ((105 = 88 ∧ (j = 12)) ∨ 105 = 98) from by omega))
  have tσ12 : TT σ12 := TT_kept tσ5 (fun c j h => hGσ12 c j (show ¬ ((c = 88 ∧ (j = 12)) ∨ c = 98) from by omega)) (fun j h => hGσ12 89 j (show ¬ ((89 = 88 ∧ (j = 12)) ∨ 89 = 98) from by omega))
  have stσ12 : ST σ12 := ST_F stσ5 (fun c j h => hGσ12 c j (show ¬ ((c = 88 ∧ (j = 12)) ∨ c = 98) from by unfold STR at h; omega))
  clear q13_1 q13_2
  refine j_pop (pc := 249) dL_law_249 rfl ?_
  refine j_goto (pc := 250) (tgt := 1352) dL_law_250 rfl ?_
  have y19 : σ12 10 10 = σ5 10 10 := (hGσ12 10 10 (show ¬ ((10 = 88 ∧ (10 = 12)) ∨ 10 = 98) from by omega))
  have f20 : (0 : Int) ≤ σ5 10 10 ∧ σ5 10 10 ≤ 400 := hIσ5 10 10
  have y21 : σ12 0 13 = τ 0 13 := ((hGσ12 0 13 (show ¬ ((0 = 88 ∧ (13 = 12)) ∨ 0 = 98) from by omega))).trans (hGσ5 0 13 (show ¬ ((0 = 10 ∧ (13 = 10)) ∨ 0 = 11) from by omega))
  have f22 : (-2147483648 : Int) ≤ τ 0 13 ∧ τ 0 13 ≤ 2147483647 := hIτ 0 13
  have y23 : σ12 88 17 = τ 88 17 := ((hGσ12 88 17 (show ¬ ((88 = 88 ∧ (17 = 12)) ∨ 88 = 98) from by omega))).trans (hGσ5 88 17 (show ¬ ((88 = 10 ∧ (17 = 10)) ∨ 88 = 11) from by omega))
  have f24 : (0 : Int) ≤ τ 88 17 ∧ τ 88 17 ≤ 5 := hIτ 88 17
  have zz : z10 = z3 := by rw [ez10, ez9, ez8, ez3, ez2, ez1]
  have b9 : BY σ12 := by
    have x1 : ∀ j : Nat, (j : Int) < τ 10 10 → σ12 11 j = τ 11 j := fun j hj => (hGσ12 11 j (show ¬ ((11 = 88 ∧ (j = 12)) ∨ 11 = 98) from by omega)).trans (q6_1 j hj)
    have y0 : σ5 88 12 = τ 88 12 := hGσ5 88 12 (show ¬ ((88 = 10 ∧ (12 = 10)) ∨ 88 = 11) from by omega)
    have y1 : ∀ j : Nat, (j : Int) < τ 10 10 → σ12 98 j = τ 98 j := fun j hj => (q13_1 j (by omega)).trans (hGσ5 98 j (show ¬ ((98 = 10 ∧ (j = 10)) ∨ 98 = 11) from by omega))
    by_cases q9 : 392 < τ 10 10
    · exact fun j hj => (by rw [x1 j (by omega), y1 j (by omega)]; exact bτ j (by omega))
    · exact BY_feed (v := z3) (m := 0) bτ rfl (by omega) (by omega) (by omega) x1 (fun k hk => by rw [hGσ12 11 _ (show ¬ ((11 = 88 ∧ (((τ 10 10).toNat + k) = 12)) ∨ 11 = 98) from by omega)]; exact (q6_2.resolve_left (by omega)) k hk) y1 (fun k hk => by (have z := (q13_2.resolve_left (by omega)) k hk); rw [y0, ← zτ, zz] at z; exact z)
  have y25 : σ12 31 6 = τ 31 6 := ((hGσ12 31 6 (show ¬ ((31 = 88 ∧ (6 = 12)) ∨ 31 = 98) from by omega))).trans (hGσ5 31 6 (show ¬ ((31 = 10 ∧ (6 = 10)) ∨ 31 = 11) from by omega))
  have f26 : (0 : Int) ≤ τ 31 6 ∧ τ 31 6 ≤ 1 := hIτ 31 6
  have y27 : σ12 39 6 = τ 39 6 := ((hGσ12 39 6 (show ¬ ((39 = 88 ∧ (6 = 12)) ∨ 39 = 98) from by omega))).trans (hGσ5 39 6 (show ¬ ((39 = 10 ∧ (6 = 10)) ∨ 39 = 11) from by omega))
  have f28 : (0 : Int) ≤ τ 39 6 ∧ τ 39 6 ≤ 1 := hIτ 39 6
  have y29 : σ12 90 0 = τ 90 0 := ((hGσ12 90 0 (show ¬ ((90 = 88 ∧ (0 = 12)) ∨ 90 = 98) from by omega))).trans (hGσ5 90 0 (show ¬ ((90 = 10 ∧ (0 = 10)) ∨ 90 = 11) from by omega))
  have f30 : (0 : Int) ≤ τ 90 0 ∧ τ 90 0 ≤ 1 := hIτ 90 0
  have y31 : σ12 90 1 = τ 90 1 := ((hGσ12 90 1 (show ¬ ((90 = 88 ∧ (1 = 12)) ∨ 90 = 98) from by omega))).trans (hGσ5 90 1 (show ¬ ((90 = 10 ∧ (1 = 10)) ∨ 90 = 11) from by omega))
  have f32 : (0 : Int) ≤ τ 90 1 ∧ τ 90 1 ≤ 1 := hIτ 90 1
  exact K σ12 hIσ12 ⟨mσ12, by omega, sσ12, b9, by omega, by omega, by omega, tσ12, stσ12⟩
set_option maxHeartbeats 4000000 in
set_option maxRecDepth 100000 in
theorem w_case_1 {G : tw_G} (hX : tw_isX G) (hM : tw_isM G) {E : List Frame → Array Value → State → State → Prop} (hN : (gN G : Int) ≤ 2560) (i : Int) (hi : 0 ≤ i ∧ i + 5 ≤ (gN G : Int)) (τ : tw_M) (hIτ : tw_I τ) (hL : tw_LI τ) (K : ∀ τ' : tw_M, tw_I τ' → tw_LI τ' → tw_J G tw_ML E 1352 [(0, vR 300), (1, vR 0), (2, vR 88), (3, vI i)] [] τ') : tw_J G tw_ML E 253 [(0, vR 300), (1, vR 0), (2, vR 88), (3, vI i)] [] τ := by
  obtain ⟨mτ, zτ, sτ, bτ, fτ, kτ0, kτ1, tτ, stτ⟩ := hL
  have g9 : (0 : Int) ≤ τ 10 10 ∧ τ 10 10 ≤ 400 := hIτ 10 10
  obtain ⟨v1, ev1⟩ : ∃ v : Int, v = (gxs G (i + 1).toNat).toInt := ⟨_, rfl⟩
  have hv1 : (-2147483648 : Int) ≤ v1 ∧ v1 ≤ 2147483647 := by rw [ev1]; exact i32_in _
  obtain ⟨v2, ev2⟩ : ∃ v : Int, v = (gxs G (i + 2).toNat).toInt := ⟨_, rfl⟩
  have hv2 : (-2147483648 : Int) ≤ v2 ∧ v2 ≤ 2147483647 := by rw [ev2]; exact i32_in _
  obtain ⟨v3, ev3⟩ : ∃ v : Int, v = (gxs G (i + 3).toNat).toInt := ⟨_, rfl⟩
  have hv3 : (-2147483648 : Int) ≤ v3 ∧ v3 ≤ 2147483647 := by rw [ev3]; exact i32_in _
  obtain ⟨v4, ev4⟩ : ∃ v : Int, v = (gxs G (i + 4).toNat).toInt := ⟨_, rfl⟩
  have hv4 : (-2147483648 : Int) ≤ v4 ∧ v4 ≤ 2147483647 := by rw [ev4]; exact i32_in _
  refine j_aload_n (pc := 253) dL_law_253 rfl rfl ?_
  refine j_aload_n (pc := 254) dL_law_254 rfl rfl ?_
  refine j_iload_n (pc := 255) dL_law_255 rfl rfl ?_
  refine j_iconst (pc := 256) dL_law_256 ?_
  refine j_iadd (pc := 257) dL_law_257 ?_
  refine j_scrAt (pc := 258) dL_law_258 (by omega) (by omega) (by omega) ?_
  refine j_topV (show _ = v1 from ev1.symm) ?_
  refine j_callV (pc := 259) (As := [vI v1]) (st := []) (c_X11_end hX v1 ⟨by omega, by omega⟩ τ hIτ) mv_L_20 rfl rfl rfl (a_0 hX) dL_law_259 ⟨Nat.le_of_ble_eq_true rfl, Nat.le_of_ble_eq_true rfl⟩ ⟨Nat.le_of_ble_eq_true rfl, Nat.le_of_ble_eq_true rfl⟩ rfl (Nat.le_of_ble_eq_true rfl) rfl (fun z1 σ2 hz1 => ?_)
  obtain ⟨r4, rfl, hr4, hIσ2, hGσ2, q3_0⟩ := hz1
  replace q3_0 : (r4 = -1 ∧ ¬ (0 ≤ v1 ∧ v1 ≤ τ 10 10) ∧ σ2 10 10 = τ 10 10) ∨ (r4 = τ 10 10 ∧ 0 ≤ v1 ∧ v1 ≤ τ 10 10 ∧ σ2 10 10 = v1) := q3_0
  refine j_st (st' := [vI r4]) rfl ?_
  have bσ2 : BY σ2 := BY_kept bτ (fun j => hGσ2 11 j (show ¬ ((11 = 10 ∧ (j = 10))) from by omega)) (fun j => hGσ2 98 j (show ¬ ((98 = 10 ∧ (j = 10))) from by omega)) (by omega)
  have mσ2 : mI σ2 := mI_kept mτ (fun j hj => hGσ2 89 j (show ¬ ((89 = 10 ∧ (j = 10))) from by omega)) (fun j => hGσ2 90 j (show ¬ ((90 = 10 ∧ (j = 10))) from by omega)) (hGσ2 91 0 (show ¬ ((91 = 10 ∧ (0 = 10))) from by omega)) hIτ
  have sσ2 : SR σ2 := SR_kept sτ (fun c j h => hGσ2 c j (show ¬ ((c = 10 ∧ (j = 10))) from by omega)) (fun j => hGσ2 104 j (show ¬ ((104 = 10 ∧ (j = 10))) from by omega)) (fun j => hGσ2 105 j (show ¬ ((105 = 10 ∧ (j = 10))) from by omega))
  have tσ2 : TT σ2 := TT_kept tτ (fun c j h => hGσ2 c j (show ¬ ((c = 10 ∧ (j = 10))) from by omega)) (fun j h => hGσ2 89 j (show ¬ ((89 = 10 ∧ (j = 10))) from by omega))
  have stσ2 : ST σ2 := ST_F stτ (fun c j h => hGσ2 c j (show ¬ ((c = 10 ∧ (j = 10))) from by unfold STR at h; omega))
  refine j_pop (pc := 262) dL_law_262 rfl ?_
  refine j_aload_n (pc := 263) dL_law_263 rfl rfl ?_
  refine j_aload_n (pc := 264) dL_law_264 rfl rfl ?_
  refine j_iload_n (pc := 265) dL_law_265 rfl rfl ?_
  refine j_iconst (pc := 266) dL_law_266 ?_
  refine j_iadd (pc := 267) dL_law_267 ?_
  refine j_scrAt (pc := 268) dL_law_268 (by omega) (by omega) (by omega) ?_
  refine j_topV (show _ = v1 from ev1.symm) ?_
  refine j_callV (pc := 269) (As := [vI v1]) (st := []) (c_X12_end hM v1 ⟨by omega, by omega⟩ σ2 hIσ2) mv_L_24 rfl rfl rfl (a_88 hM) dL_law_269 ⟨Nat.le_of_ble_eq_true rfl, Nat.le_of_ble_eq_true rfl⟩ ⟨Nat.le_of_ble_eq_true rfl, Nat.le_of_ble_eq_true rfl⟩ rfl (Nat.le_of_ble_eq_true rfl) rfl (fun z5 σ6 hz5 => ?_)
  obtain ⟨r8, rfl, hr8, hIσ6, hGσ6, q7_0⟩ := hz5
  replace q7_0 : (r8 = -1 ∧ ¬ (0 ≤ v1 ∧ v1 ≤ σ2 88 12) ∧ σ6 88 12 = σ2 88 12) ∨ (r8 = σ2 88 12 ∧ 0 ≤ v1 ∧ v1 ≤ σ2 88 12 ∧ σ6 88 12 = v1) := q7_0
  have y9 : σ2 88 12 = τ 88 12 := (hGσ2 88 12 (show ¬ ((88 = 10 ∧ (12 = 10))) from by omega))
  have f10 : (0 : Int) ≤ τ 88 12 ∧ τ 88 12 ≤ 400 := hIτ 88 12
  refine j_st (st' := [vI r8]) rfl ?_
  have y11 : σ6 10 10 = σ2 10 10 := (hGσ6 10 10 (show ¬ ((10 = 88 ∧ (10 = 12))) from by omega))
  have f12 : (0 : Int) ≤ σ2 10 10 ∧ σ2 10 10 ≤ 400 := hIσ2 10 10
  have bσ6 : BY σ6 := BY_kept bσ2 (fun j => hGσ6 11 j (show ¬ ((11 = 88 ∧ (j = 12))) from by omega)) (fun j => hGσ6 98 j (show ¬ ((98 = 88 ∧ (j = 12))) from by omega)) (by omega)
  have mσ6 : mI σ6 := mI_kept mσ2 (fun j hj => hGσ6 89 j (show ¬ ((89 = 88 ∧ (j = 12))) from by omega)) (fun j => hGσ6 90 j (show ¬ ((90 = 88 ∧ (j = 12))) from by omega)) (hGσ6 91 0 (show ¬ ((91 = 88 ∧ (0 = 12))) from by omega)) hIσ2
  have sσ6 : SR σ6 := SR_kept sσ2 (fun c j h => hGσ6 c j (show ¬ ((c = 88 ∧ (j = 12))) from by omega)) (fun j => hGσ6 104 j (show ¬ ((104 = 88 ∧ (j = 12))) from by omega)) (fun j => hGσ6 105 j (show ¬ ((105 = 88 ∧ (j = 12))) from by omega))
  have tσ6 : TT σ6 := TT_kept tσ2 (fun c j h => hGσ6 c j (show ¬ ((c = 88 ∧ (j = 12))) from by omega)) (fun j h => hGσ6 89 j (show ¬ ((89 = 88 ∧ (j = 12))) from by omega))
  have stσ6 : ST σ6 := ST_F stσ2 (fun c j h => hGσ6 c j (show ¬ ((c = 88 ∧ (j = 12))) from by unfold STR at h; omega))
  refine j_pop (pc := 272) dL_law_272 rfl ?_
  refine j_goto (pc := 273) (tgt := 1352) dL_law_273 rfl ?_
  have y13 : σ6 10 10 = σ2 10 10 := (hGσ6 10 10 (show ¬ ((10 = 88 ∧ (10 = 12))) from by omega))
  have y14 : σ6 0 13 = τ 0 13 := ((hGσ6 0 13 (show ¬ ((0 = 88 ∧ (13 = 12))) from by omega))).trans (hGσ2 0 13 (show ¬ ((0 = 10 ∧ (13 = 10))) from by omega))
  have f15 : (-2147483648 : Int) ≤ τ 0 13 ∧ τ 0 13 ≤ 2147483647 := hIτ 0 13
  have y16 : σ6 88 17 = τ 88 17 := ((hGσ6 88 17 (show ¬ ((88 = 88 ∧ (17 = 12))) from by omega))).trans (hGσ2 88 17 (show ¬ ((88 = 10 ∧ (17 = 10))) from by omega))
  have f17 : (0 : Int) ≤ τ 88 17 ∧ τ 88 17 ≤ 5 := hIτ 88 17
  have y18 : σ6 31 6 = τ 31 6 := ((hGσ6 31 6 (show ¬ ((31 = 88 ∧ (6 = 12))) from by omega))).trans (hGσ2 31 6 (show ¬ ((31 = 10 ∧ (6 = 10))) from by omega))
  have f19 : (0 : Int) ≤ τ 31 6 ∧ τ 31 6 ≤ 1 := hIτ 31 6
  have y20 : σ6 39 6 = τ 39 6 := ((hGσ6 39 6 (show ¬ ((39 = 88 ∧ (6 = 12))) from by omega))).trans (hGσ2 39 6 (show ¬ ((39 = 10 ∧ (6 = 10))) from by omega))
  have f21 : (0 : Int) ≤ τ 39 6 ∧ τ 39 6 ≤ 1 := hIτ 39 6
  have y22 : σ6 90 0 = τ 90 0 := ((hGσ6 90 0 (show ¬ ((90 = 88 ∧ (0 = 12))) from by omega))).trans (hGσ2 90 0 (show ¬ ((90 = 10 ∧ (0 = 10))) from by omega))
  have f23 : (0 : Int) ≤ τ 90 0 ∧ τ 90 0 ≤ 1 := hIτ 90 0
  have y24 : σ6 90 1 = τ 90 1 := ((hGσ6 90 1 (show ¬ ((90 = 88 ∧ (1 = 12))) from by omega))).trans (hGσ2 90 1 (show ¬ ((90 = 10 ∧ (1 = 10))) from by omega))
  have f25 : (0 : Int) ≤ τ 90 1 ∧ τ 90 1 ≤ 1 := hIτ 90 1
  exact K σ6 hIσ6 ⟨mσ6, by omega, sσ6, bσ6, by omega, by omega, by omega, tσ6, stσ6⟩
set_option maxHeartbeats 4000000 in
set_option maxRecDepth 100000 in
theorem w_case_2 {G : tw_G} (hX : tw_isX G) (hM : tw_isM G) {E : List Frame → Array Value → State → State → Prop} (hN : (gN G : Int) ≤ 2560) (i : Int) (hi : 0 ≤ i ∧ i + 5 ≤ (gN G : Int)) (τ : tw_M) (hIτ : tw_I τ) (hL : tw_LI τ) (K : ∀ τ' : tw_M, tw_I τ' → tw_LI τ' → tw_J G tw_ML E 1352 [(0, vR 300), (1, vR 0), (2, vR 88), (3, vI i)] [] τ') : tw_J G tw_ML E 276 [(0, vR 300), (1, vR 0), (2, vR 88), (3, vI i)] [] τ := by
  obtain ⟨mτ, zτ, sτ, bτ, fτ, kτ0, kτ1, tτ, stτ⟩ := hL
  have g9 : (0 : Int) ≤ τ 10 10 ∧ τ 10 10 ≤ 400 := hIτ 10 10
  obtain ⟨v1, ev1⟩ : ∃ v : Int, v = (gxs G (i + 1).toNat).toInt := ⟨_, rfl⟩
  have hv1 : (-2147483648 : Int) ≤ v1 ∧ v1 ≤ 2147483647 := by rw [ev1]; exact i32_in _
  obtain ⟨v2, ev2⟩ : ∃ v : Int, v = (gxs G (i + 2).toNat).toInt := ⟨_, rfl⟩
  have hv2 : (-2147483648 : Int) ≤ v2 ∧ v2 ≤ 2147483647 := by rw [ev2]; exact i32_in _
  obtain ⟨v3, ev3⟩ : ∃ v : Int, v = (gxs G (i + 3).toNat).toInt := ⟨_, rfl⟩
  have hv3 : (-2147483648 : Int) ≤ v3 ∧ v3 ≤ 2147483647 := by rw [ev3]; exact i32_in _
  obtain ⟨v4, ev4⟩ : ∃ v : Int, v = (gxs G (i + 4).toNat).toInt := ⟨_, rfl⟩
  have hv4 : (-2147483648 : Int) ≤ v4 ∧ v4 ≤ 2147483647 := by rw [ev4]; exact i32_in _
  refine j_aload_n (pc := 276) dL_law_276 rfl rfl ?_
  refine j_callV (pc := 277) (As := []) (st := []) (c_X11_text hX τ hIτ) mv_L_25 rfl rfl rfl (a_0 hX) dL_law_277 ⟨Nat.le_of_ble_eq_true rfl, Nat.le_of_ble_eq_true rfl⟩ ⟨Nat.le_of_ble_eq_true rfl, Nat.le_of_ble_eq_true rfl⟩ rfl (Nat.le_of_ble_eq_true rfl) rfl (fun z1 σ2 hz1 => ?_)
  obtain ⟨r4, rfl, hr4, hIσ2, hGσ2, q3_0, q3_1, q3_2, q3_3, q3_4, q3_5, q3_6, q3_7, q3_8⟩ := hz1
  replace q3_0 : σ2 10 10 = 0 := q3_0
  replace q3_1 : r4 = txt (parse (fX τ)) := q3_1
  replace q3_2 : σ2 0 13 = (parse (fX τ)).1 4 := q3_2
  replace q3_3 : (σ2 0 13 = 0 ∧ σ2 31 6 = 0 ∧ σ2 39 6 = 0) ∨ (¬ σ2 0 13 = 0 ∧ σ2 31 6 = τ 31 6 ∧ σ2 39 6 = τ 39 6) := q3_3
  replace q3_4 : (σ2 0 13 = 0 ∧ σ2 29 0 = 0) ∨ (¬ σ2 0 13 = 0 ∧ σ2 29 0 = τ 29 0) := q3_4
  replace q3_5 : (σ2 0 13 = 0 ∧ σ2 30 0 = 0) ∨ (¬ σ2 0 13 = 0 ∧ σ2 30 0 = τ 30 0) := q3_5
  replace q3_6 : (σ2 0 13 = 0 ∧ σ2 29 1 = 0) ∨ (¬ σ2 0 13 = 0 ∧ σ2 29 1 = τ 29 1) := q3_6
  replace q3_7 : (σ2 0 13 = 0 ∧ σ2 30 1 = 0) ∨ (¬ σ2 0 13 = 0 ∧ σ2 30 1 = τ 30 1) := q3_7
  replace q3_8 : (σ2 0 13 = 0 ∧ wW 1 σ2 = pwB (parse (fX τ)).1 ∧ (∀ j : Nat, j < 11 → σ2 3 j = (parse (fX τ)).1 (200 + j)) ∧ σ2 24 0 = 0 ∧ (∀ j : Nat, j < 11 → σ2 28 j = (parse (fX τ)).1 (200 + j)) ∧ σ2 23 4 = (parse (fX τ)).1 105 ∧ σ2 23 5 = (parse (fX τ)).1 106 ∧ σ2 60 6 = 0) ∨ (¬ σ2 0 13 = 0 ∧ ∀ c j : Nat, ((0 < c ∧ c < 10) ∨ (23 ≤ c ∧ c < 88)) → σ2 c j = τ c j) := q3_8
  refine j_st (st' := [vI r4]) rfl ?_
  have bσ2 : BY σ2 := BY_kept bτ (fun j => hGσ2 11 j (show ¬ ((11 = 10 ∧ (j = 3 ∨ j = 4 ∨ j = 5 ∨ j = 6 ∨ j = 7 ∨ j = 8 ∨ j = 10 ∨ j = 11 ∨ j = 12 ∨ j = 13)) ∨ (12 ≤ 11 ∧ 11 < 14) ∨ (14 ≤ 11 ∧ 11 < 23) ∨ (1 ≤ 11 ∧ 11 < 10) ∨ (23 ≤ 11 ∧ 11 < 31) ∨ (11 = 31 ∧ (j = 6)) ∨ (11 = 39 ∧ (j = 6)) ∨ (11 = 60 ∧ (j = 6 ∨ j = 7)) ∨ (11 = 71 ∧ (j = 1)) ∨ (11 = 76 ∧ (j = 1)) ∨ (11 = 0 ∧ (j = 13))) from by omega)) (fun j => hGσ2 98 j (show ¬ ((98 = 10 ∧ (j = 3 ∨ j = 4 ∨ j = 5 ∨ j = 6 ∨ j = 7 ∨ j = 8 ∨ j = 10 ∨ j = 11 ∨ j = 12 ∨ j = 13)) ∨ (12 ≤ 98 ∧ 98 < 14) ∨ (14 ≤ 98 ∧ 98 < 23) ∨ (1 ≤ 98 ∧ 98 < 10) ∨ (23 ≤ 98 ∧ 98 < 31) ∨ (98 = 31 ∧ (j = 6)) ∨ (98 = 39 ∧ (j = 6)) ∨ (98 = 60 ∧ (j = 6 ∨ j = 7)) ∨ (98 = 71 ∧ (j = 1)) ∨ (98 = 76 ∧ (j = 1)) ∨ (98 = 0 ∧ (j = 13))) from by omega)) (by omega)
  have mσ2 : mI σ2 := mI_kept mτ (fun j hj => hGσ2 89 j (show ¬ ((89 = 10 ∧ (j = 3 ∨ j = 4 ∨ j = 5 ∨ j = 6 ∨ j = 7 ∨ j = 8 ∨ j = 10 ∨ j = 11 ∨ j = 12 ∨ j = 13)) ∨ (12 ≤ 89 ∧ 89 < 14) ∨ (14 ≤ 89 ∧ 89 < 23) ∨ (1 ≤ 89 ∧ 89 < 10) ∨ (23 ≤ 89 ∧ 89 < 31) ∨ (89 = 31 ∧ (j = 6)) ∨ (89 = 39 ∧ (j = 6)) ∨ (89 = 60 ∧ (j = 6 ∨ j = 7)) ∨ (89 = 71 ∧ (j = 1)) ∨ (89 = 76 ∧ (j = 1)) ∨ (89 = 0 ∧ (j = 13))) from by omega)) (fun j => hGσ2 90 j (show ¬ ((90 = 10 ∧ (j = 3 ∨ j = 4 ∨ j = 5 ∨ j = 6 ∨ j = 7 ∨ j = 8 ∨ j = 10 ∨ j = 11 ∨ j = 12 ∨ j = 13)) ∨ (12 ≤ 90 ∧ 90 < 14) ∨ (14 ≤ 90 ∧ 90 < 23) ∨ (1 ≤ 90 ∧ 90 < 10) ∨ (23 ≤ 90 ∧ 90 < 31) ∨ (90 = 31 ∧ (j = 6)) ∨ (90 = 39 ∧ (j = 6)) ∨ (90 = 60 ∧ (j = 6 ∨ j = 7)) ∨ (90 = 71 ∧ (j = 1)) ∨ (90 = 76 ∧ (j = 1)) ∨ (90 = 0 ∧ (j = 13))) from by omega)) (hGσ2 91 0 (show ¬ ((91 = 10 ∧ (0 = 3 ∨ 0 = 4 ∨ 0 = 5 ∨ 0 = 6 ∨ 0 = 7 ∨ 0 = 8 ∨ 0 = 10 ∨ 0 = 11 ∨ 0 = 12 ∨ 0 = 13)) ∨ (12 ≤ 91 ∧ 91 < 14) ∨ (14 ≤ 91 ∧ 91 < 23) ∨ (1 ≤ 91 ∧ 91 < 10) ∨ (23 ≤ 91 ∧ 91 < 31) ∨ (91 = 31 ∧ (0 = 6)) ∨ (91 = 39 ∧ (0 = 6)) ∨ (91 = 60 ∧ (0 = 6 ∨ 0 = 7)) ∨ (91 = 71 ∧ (0 = 1)) ∨ (91 = 76 ∧ (0 = 1)) ∨ (91 = 0 ∧ (0 = 13))) from by omega)) hIτ
  have sσ2 : SR σ2 := SR_kept sτ (fun c j h => hGσ2 c j (show ¬ ((c = 10 ∧ (j = 3 ∨ j = 4 ∨ j = 5 ∨ j = 6 ∨ j = 7 ∨ j = 8 ∨ j = 10 ∨ j = 11 ∨ j = 12 ∨ j = 13)) ∨ (12 ≤ c ∧ c < 14) ∨ (14 ≤ c ∧ c < 23) ∨ (1 ≤ c ∧ c < 10) ∨ (23 ≤ c ∧ c < 31) ∨ (c = 31 ∧ (j = 6)) ∨ (c = 39 ∧ (j = 6)) ∨ (c = 60 ∧ (j = 6 ∨ j = 7)) ∨ (c = 71 ∧ (j = 1)) ∨ (c = 76 ∧ (j = 1)) ∨ (c = 0 ∧ (j = 13))) from by omega)) (fun j => hGσ2 104 j (show ¬ ((104 = 10 ∧ (j = 3 ∨ j = 4 ∨ j = 5 ∨ j = 6 ∨ j = 7 ∨ j = 8 ∨ j = 10 ∨ j = 11 ∨ j = 12 ∨ j = 13)) ∨ (12 ≤ 104 ∧ 104 < 14) ∨ (14 ≤ 104 ∧ 104 < 23) ∨ (1 ≤ 104 ∧ 104 < 10) ∨ (23 ≤ 104 ∧ 104 < 31) ∨ (104 = 31 ∧ (j = 6)) ∨ (104 = 39 ∧ (j = 6)) ∨ (104 = 60 ∧ (j = 6 ∨ j = 7)) ∨ (104 = 71 ∧ (j = 1)) ∨ (104 = 76 ∧ (j = 1)) ∨ (104 = 0 ∧ (j = 13))) from by omega)) (fun j => hGσ2 105 j (show ¬ ((105 = 10 ∧ (j = 3 ∨ j = 4 ∨ j = 5 ∨ j = 6 ∨ j = 7 ∨ j = 8 ∨ j = 10 ∨ j = 11 ∨ j = 12 ∨ j = 13)) ∨ (12 ≤ 105 ∧ 105 < 14) ∨ (14 ≤ 105 ∧ 105 < 23) ∨ (1 ≤ 105 ∧ 105 < 10) ∨ (23 ≤ 105 ∧ 105 < 31) ∨ (105 = 31 ∧ (j = 6)) ∨ (105 = 39 ∧ (j = 6)) ∨ (105 = 60 ∧ (j = 6 ∨ j = 7)) ∨ (105 = 71 ∧ (j = 1)) ∨ (105 = 76 ∧ (j = 1)) ∨ (105 = 0 ∧ (j = 13))) from by omega))
  refine j_pop (pc := 280) dL_law_280 rfl ?_
  refine j_aload_n (pc := 281) dL_law_281 rfl rfl ?_
  have ff : fM σ2 = fX τ := (fM_F (hGσ2 88 12 (show ¬ ((88 = 10 ∧ (12 = 3 ∨ 12 = 4 ∨ 12 = 5 ∨ 12 = 6 ∨ 12 = 7 ∨ 12 = 8 ∨ 12 = 10 ∨ 12 = 11 ∨ 12 = 12 ∨ 12 = 13)) ∨ (12 ≤ 88 ∧ 88 < 14) ∨ (14 ≤ 88 ∧ 88 < 23) ∨ (1 ≤ 88 ∧ 88 < 10) ∨ (23 ≤ 88 ∧ 88 < 31) ∨ (88 = 31 ∧ (12 = 6)) ∨ (88 = 39 ∧ (12 = 6)) ∨ (88 = 60 ∧ (12 = 6 ∨ 12 = 7)) ∨ (88 = 71 ∧ (12 = 1)) ∨ (88 = 76 ∧ (12 = 1)) ∨ (88 = 0 ∧ (12 = 13))) from by omega)) (fun j => hGσ2 98 j (show ¬ ((98 = 10 ∧ (j = 3 ∨ j = 4 ∨ j = 5 ∨ j = 6 ∨ j = 7 ∨ j = 8 ∨ j = 10 ∨ j = 11 ∨ j = 12 ∨ j = 13)) ∨ (12 ≤ 98 ∧ 98 < 14) ∨ (14 ≤ 98 ∧ 98 < 23) ∨ (1 ≤ 98 ∧ 98 < 10) ∨ (23 ≤ 98 ∧ 98 < 31) ∨ (98 = 31 ∧ (j = 6)) ∨ (98 = 39 ∧ (j = 6)) ∨ (98 = 60 ∧ (j = 6 ∨ j = 7)) ∨ (98 = 71 ∧ (j = 1)) ∨ (98 = 76 ∧ (j = 1)) ∨ (98 = 0 ∧ (j = 13))) from by omega))).trans (fXM (by omega) bτ).symm
  refine j_callV (pc := 282) (As := []) (st := []) (c_X12_text hM σ2 hIσ2 mσ2 (by rw [ff]; exact fX_FB (hIτ 10 10))) mv_L_29 rfl rfl rfl (a_88 hM) dL_law_282 ⟨Nat.le_of_ble_eq_true rfl, Nat.le_of_ble_eq_true rfl⟩ ⟨Nat.le_of_ble_eq_true rfl, Nat.le_of_ble_eq_true rfl⟩ rfl (Nat.le_of_ble_eq_true rfl) rfl (fun z5 σ6 hz5 => ?_)
  obtain ⟨r8, rfl, hr8, hIσ6, hGσ6, q7_0, q7_1, q7_2, q7_3, q7_4, q7_5, q7_6, q7_7, q7_8, q7_9⟩ := hz5
  replace q7_0 : mI σ6 := q7_0
  replace q7_1 : σ6 88 12 = 0 := q7_1
  replace q7_2 : r8 = txt (parse (fM σ2)) := q7_2
  replace q7_3 : σ6 88 17 = (parse (fM σ2)).1 4 := q7_3
  replace q7_4 : (σ6 88 17 = 0 ∧ σ6 90 0 = 0 ∧ σ6 90 1 = 0) ∨ (¬ σ6 88 17 = 0 ∧ σ6 90 0 = σ2 90 0 ∧ σ6 90 1 = σ2 90 1) := q7_4
  have y9 : σ2 90 0 = τ 90 0 := (hGσ2 90 0 (show ¬ ((90 = 10 ∧ (0 = 3 ∨ 0 = 4 ∨ 0 = 5 ∨ 0 = 6 ∨ 0 = 7 ∨ 0 = 8 ∨ 0 = 10 ∨ 0 = 11 ∨ 0 = 12 ∨ 0 = 13)) ∨ (12 ≤ 90 ∧ 90 < 14) ∨ (14 ≤ 90 ∧ 90 < 23) ∨ (1 ≤ 90 ∧ 90 < 10) ∨ (23 ≤ 90 ∧ 90 < 31) ∨ (90 = 31 ∧ (0 = 6)) ∨ (90 = 39 ∧ (0 = 6)) ∨ (90 = 60 ∧ (0 = 6 ∨ 0 = 7)) ∨ (90 = 71 ∧ (0 = 1)) ∨ (90 = 76 ∧ (0 = 1)) ∨ (90 = 0 ∧ (0 = 13))) from by omega))
  have f10 : (0 : Int) ≤ τ 90 0 ∧ τ 90 0 ≤ 1 := hIτ 90 0
  have y11 : σ2 90 1 = τ 90 1 := (hGσ2 90 1 (show ¬ ((90 = 10 ∧ (1 = 3 ∨ 1 = 4 ∨ 1 = 5 ∨ 1 = 6 ∨ 1 = 7 ∨ 1 = 8 ∨ 1 = 10 ∨ 1 = 11 ∨ 1 = 12 ∨ 1 = 13)) ∨ (12 ≤ 90 ∧ 90 < 14) ∨ (14 ≤ 90 ∧ 90 < 23) ∨ (1 ≤ 90 ∧ 90 < 10) ∨ (23 ≤ 90 ∧ 90 < 31) ∨ (90 = 31 ∧ (1 = 6)) ∨ (90 = 39 ∧ (1 = 6)) ∨ (90 = 60 ∧ (1 = 6 ∨ 1 = 7)) ∨ (90 = 71 ∧ (1 = 1)) ∨ (90 = 76 ∧ (1 = 1)) ∨ (90 = 0 ∧ (1 = 13))) from by omega))
  have f12 : (0 : Int) ≤ τ 90 1 ∧ τ 90 1 ≤ 1 := hIτ 90 1
  replace q7_5 : (σ6 88 17 = 0 ∧ σ6 89 93 = 0) ∨ (¬ σ6 88 17 = 0 ∧ σ6 89 93 = σ2 89 93) := q7_5
  have y13 : σ2 89 93 = τ 89 93 := (hGσ2 89 93 (show ¬ ((89 = 10 ∧ (93 = 3 ∨ 93 = 4 ∨ 93 = 5 ∨ 93 = 6 ∨ 93 = 7 ∨ 93 = 8 ∨ 93 = 10 ∨ 93 = 11 ∨ 93 = 12 ∨ 93 = 13)) ∨ (12 ≤ 89 ∧ 89 < 14) ∨ (14 ≤ 89 ∧ 89 < 23) ∨ (1 ≤ 89 ∧ 89 < 10) ∨ (23 ≤ 89 ∧ 89 < 31) ∨ (89 = 31 ∧ (93 = 6)) ∨ (89 = 39 ∧ (93 = 6)) ∨ (89 = 60 ∧ (93 = 6 ∨ 93 = 7)) ∨ (89 = 71 ∧ (93 = 1)) ∨ (89 = 76 ∧ (93 = 1)) ∨ (89 = 0 ∧ (93 = 13))) from by omega))
  have f14 : (0 : Int) ≤ τ 89 93 ∧ τ 89 93 ≤ 999 := hIτ 89 93
  replace q7_6 : (σ6 88 17 = 0 ∧ σ6 89 94 = 0) ∨ (¬ σ6 88 17 = 0 ∧ σ6 89 94 = σ2 89 94) := q7_6
  have y15 : σ2 89 94 = τ 89 94 := (hGσ2 89 94 (show ¬ ((89 = 10 ∧ (94 = 3 ∨ 94 = 4 ∨ 94 = 5 ∨ 94 = 6 ∨ 94 = 7 ∨ 94 = 8 ∨ 94 = 10 ∨ 94 = 11 ∨ 94 = 12 ∨ 94 = 13)) ∨ (12 ≤ 89 ∧ 89 < 14) ∨ (14 ≤ 89 ∧ 89 < 23) ∨ (1 ≤ 89 ∧ 89 < 10) ∨ (23 ≤ 89 ∧ 89 < 31) ∨ (89 = 31 ∧ (94 = 6)) ∨ (89 = 39 ∧ (94 = 6)) ∨ (89 = 60 ∧ (94 = 6 ∨ 94 = 7)) ∨ (89 = 71 ∧ (94 = 1)) ∨ (89 = 76 ∧ (94 = 1)) ∨ (89 = 0 ∧ (94 = 13))) from by omega))
  have f16 : (-2147483648 : Int) ≤ τ 89 94 ∧ τ 89 94 ≤ 2147483647 := hIτ 89 94
  replace q7_7 : (σ6 88 17 = 0 ∧ σ6 89 95 = 0) ∨ (¬ σ6 88 17 = 0 ∧ σ6 89 95 = σ2 89 95) := q7_7
  have y17 : σ2 89 95 = τ 89 95 := (hGσ2 89 95 (show ¬ ((89 = 10 ∧ (95 = 3 ∨ 95 = 4 ∨ 95 = 5 ∨ 95 = 6 ∨ 95 = 7 ∨ 95 = 8 ∨ 95 = 10 ∨ 95 = 11 ∨ 95 = 12 ∨ 95 = 13)) ∨ (12 ≤ 89 ∧ 89 < 14) ∨ (14 ≤ 89 ∧ 89 < 23) ∨ (1 ≤ 89 ∧ 89 < 10) ∨ (23 ≤ 89 ∧ 89 < 31) ∨ (89 = 31 ∧ (95 = 6)) ∨ (89 = 39 ∧ (95 = 6)) ∨ (89 = 60 ∧ (95 = 6 ∨ 95 = 7)) ∨ (89 = 71 ∧ (95 = 1)) ∨ (89 = 76 ∧ (95 = 1)) ∨ (89 = 0 ∧ (95 = 13))) from by omega))
  have f18 : (0 : Int) ≤ τ 89 95 ∧ τ 89 95 ≤ 999 := hIτ 89 95
  replace q7_8 : (σ6 88 17 = 0 ∧ σ6 89 96 = 0) ∨ (¬ σ6 88 17 = 0 ∧ σ6 89 96 = σ2 89 96) := q7_8
  have y19 : σ2 89 96 = τ 89 96 := (hGσ2 89 96 (show ¬ ((89 = 10 ∧ (96 = 3 ∨ 96 = 4 ∨ 96 = 5 ∨ 96 = 6 ∨ 96 = 7 ∨ 96 = 8 ∨ 96 = 10 ∨ 96 = 11 ∨ 96 = 12 ∨ 96 = 13)) ∨ (12 ≤ 89 ∧ 89 < 14) ∨ (14 ≤ 89 ∧ 89 < 23) ∨ (1 ≤ 89 ∧ 89 < 10) ∨ (23 ≤ 89 ∧ 89 < 31) ∨ (89 = 31 ∧ (96 = 6)) ∨ (89 = 39 ∧ (96 = 6)) ∨ (89 = 60 ∧ (96 = 6 ∨ 96 = 7)) ∨ (89 = 71 ∧ (96 = 1)) ∨ (89 = 76 ∧ (96 = 1)) ∨ (89 = 0 ∧ (96 = 13))) from by omega))
  have f20 : (-2147483648 : Int) ≤ τ 89 96 ∧ τ 89 96 ≤ 2147483647 := hIτ 89 96
  replace q7_9 : (σ6 88 17 = 0 ∧ wM σ6 = pwB (parse (fM σ2)).1 ∧ (∀ j : Nat, j < 11 → σ6 89 (82 + j) = (parse (fM σ2)).1 (200 + j)) ∧ (∀ j : Nat, j < 82 → σ6 89 j = 0) ∧ σ6 91 5 = (parse (fM σ2)).1 105 ∧ σ6 91 6 = (parse (fM σ2)).1 106) ∨ (¬ σ6 88 17 = 0 ∧ ∀ c j : Nat, 89 ≤ c → c < 93 → σ6 c j = σ2 c j) := q7_9
  refine j_st (st' := [vI r8]) rfl ?_
  rw [ff] at q7_2
  rw [ff] at q7_3
  rw [ff] at q7_9
  have y21 : σ6 10 10 = σ2 10 10 := (hGσ6 10 10 (show ¬ ((10 = 88 ∧ (10 = 9 ∨ 10 = 10 ∨ 10 = 12 ∨ 10 = 13 ∨ 10 = 14 ∨ 10 = 15 ∨ 10 = 16 ∨ 10 = 17 ∨ 10 = 18)) ∨ (10 = 89 ∧ 10 < 100) ∨ (90 ≤ 10 ∧ 10 < 98)) from by omega))
  have f22 : (0 : Int) ≤ σ2 10 10 ∧ σ2 10 10 ≤ 400 := hIσ2 10 10
  have bσ6 : BY σ6 := BY_kept bσ2 (fun j => hGσ6 11 j (show ¬ ((11 = 88 ∧ (j = 9 ∨ j = 10 ∨ j = 12 ∨ j = 13 ∨ j = 14 ∨ j = 15 ∨ j = 16 ∨ j = 17 ∨ j = 18)) ∨ (11 = 89 ∧ j < 100) ∨ (90 ≤ 11 ∧ 11 < 98)) from by omega)) (fun j => hGσ6 98 j (show ¬ ((98 = 88 ∧ (j = 9 ∨ j = 10 ∨ j = 12 ∨ j = 13 ∨ j = 14 ∨ j = 15 ∨ j = 16 ∨ j = 17 ∨ j = 18)) ∨ (98 = 89 ∧ j < 100) ∨ (90 ≤ 98 ∧ 98 < 98)) from by omega)) (by omega)
  have mσ6 : mI σ6 := q7_0
  have sσ6 : SR σ6 := SR_kept sσ2 (fun c j h => hGσ6 c j (show ¬ ((c = 88 ∧ (j = 9 ∨ j = 10 ∨ j = 12 ∨ j = 13 ∨ j = 14 ∨ j = 15 ∨ j = 16 ∨ j = 17 ∨ j = 18)) ∨ (c = 89 ∧ j < 100) ∨ (90 ≤ c ∧ c < 98)) from by omega)) (fun j => hGσ6 104 j (show ¬ ((104 = 88 ∧ (j = 9 ∨ j = 10 ∨ j = 12 ∨ j = 13 ∨ j = 14 ∨ j = 15 ∨ j = 16 ∨ j = 17 ∨ j = 18)) ∨ (104 = 89 ∧ j < 100) ∨ (90 ≤ 104 ∧ 104 < 98)) from by omega)) (fun j => hGσ6 105 j (show ¬ ((105 = 88 ∧ (j = 9 ∨ j = 10 ∨ j = 12 ∨ j = 13 ∨ j = 14 ∨ j = 15 ∨ j = 16 ∨ j = 17 ∨ j = 18)) ∨ (105 = 89 ∧ j < 100) ∨ (90 ≤ 105 ∧ 105 < 98)) from by omega))
  have st9 := ST_text (P := pwB (parse (fX τ)).1) (y := (parse (fX τ)).1) stτ hIσ6 (q3_2.trans q7_3.symm) q3_8 q7_9 (fun z => by rcases q3_3 with q | q; exact ⟨q.2.1, q.2.2⟩; exact absurd z q.1) (fun c j h => hGσ2 c j (show ¬ ((c = 10 ∧ (j = 3 ∨ j = 4 ∨ j = 5 ∨ j = 6 ∨ j = 7 ∨ j = 8 ∨ j = 10 ∨ j = 11 ∨ j = 12 ∨ j = 13)) ∨ (12 ≤ c ∧ c < 14) ∨ (14 ≤ c ∧ c < 23) ∨ (1 ≤ c ∧ c < 10) ∨ (23 ≤ c ∧ c < 31) ∨ (c = 31 ∧ (j = 6)) ∨ (c = 39 ∧ (j = 6)) ∨ (c = 60 ∧ (j = 6 ∨ j = 7)) ∨ (c = 71 ∧ (j = 1)) ∨ (c = 76 ∧ (j = 1)) ∨ (c = 0 ∧ (j = 13))) from by omega)) (fun c j h => hGσ6 c j (show ¬ ((c = 88 ∧ (j = 9 ∨ j = 10 ∨ j = 12 ∨ j = 13 ∨ j = 14 ∨ j = 15 ∨ j = 16 ∨ j = 17 ∨ j = 18)) ∨ (c = 89 ∧ j < 100) ∨ (90 ≤ c ∧ c < 98)) from by omega))
  clear q3_8 q7_9
  refine j_pop (pc := 285) dL_law_285 rfl ?_
  refine j_goto (pc := 286) (tgt := 1352) dL_law_286 rfl ?_
  have y23 : σ6 10 10 = σ2 10 10 := (hGσ6 10 10 (show ¬ ((10 = 88 ∧ (10 = 9 ∨ 10 = 10 ∨ 10 = 12 ∨ 10 = 13 ∨ 10 = 14 ∨ 10 = 15 ∨ 10 = 16 ∨ 10 = 17 ∨ 10 = 18)) ∨ (10 = 89 ∧ 10 < 100) ∨ (90 ≤ 10 ∧ 10 < 98)) from by omega))
  have y24 : σ6 0 13 = σ2 0 13 := (hGσ6 0 13 (show ¬ ((0 = 88 ∧ (13 = 9 ∨ 13 = 10 ∨ 13 = 12 ∨ 13 = 13 ∨ 13 = 14 ∨ 13 = 15 ∨ 13 = 16 ∨ 13 = 17 ∨ 13 = 18)) ∨ (0 = 89 ∧ 13 < 100) ∨ (90 ≤ 0 ∧ 0 < 98)) from by omega))
  have f25 : (-2147483648 : Int) ≤ σ2 0 13 ∧ σ2 0 13 ≤ 2147483647 := hIσ2 0 13
  have y26 : σ6 31 6 = σ2 31 6 := (hGσ6 31 6 (show ¬ ((31 = 88 ∧ (6 = 9 ∨ 6 = 10 ∨ 6 = 12 ∨ 6 = 13 ∨ 6 = 14 ∨ 6 = 15 ∨ 6 = 16 ∨ 6 = 17 ∨ 6 = 18)) ∨ (31 = 89 ∧ 6 < 100) ∨ (90 ≤ 31 ∧ 31 < 98)) from by omega))
  have f27 : (0 : Int) ≤ σ2 31 6 ∧ σ2 31 6 ≤ 1 := hIσ2 31 6
  have y28 : σ6 39 6 = σ2 39 6 := (hGσ6 39 6 (show ¬ ((39 = 88 ∧ (6 = 9 ∨ 6 = 10 ∨ 6 = 12 ∨ 6 = 13 ∨ 6 = 14 ∨ 6 = 15 ∨ 6 = 16 ∨ 6 = 17 ∨ 6 = 18)) ∨ (39 = 89 ∧ 6 < 100) ∨ (90 ≤ 39 ∧ 39 < 98)) from by omega))
  have f29 : (0 : Int) ≤ σ2 39 6 ∧ σ2 39 6 ≤ 1 := hIσ2 39 6
  have f9 : σ6 0 13 = σ6 88 17 := by omega
  obtain ⟨t0, t1, t2, t3, t4, t5, t6, t7, t8, t9, t10, t11, t12, t13, t14, t15, t16, t17⟩ := tτ
  have y30 : σ6 29 0 = σ2 29 0 := (hGσ6 29 0 (show ¬ ((29 = 88 ∧ (0 = 9 ∨ 0 = 10 ∨ 0 = 12 ∨ 0 = 13 ∨ 0 = 14 ∨ 0 = 15 ∨ 0 = 16 ∨ 0 = 17 ∨ 0 = 18)) ∨ (29 = 89 ∧ 0 < 100) ∨ (90 ≤ 29 ∧ 29 < 98)) from by omega))
  have f31 : (0 : Int) ≤ σ2 29 0 ∧ σ2 29 0 ≤ 999 := hIσ2 29 0
  have y32 : σ6 30 0 = σ2 30 0 := (hGσ6 30 0 (show ¬ ((30 = 88 ∧ (0 = 9 ∨ 0 = 10 ∨ 0 = 12 ∨ 0 = 13 ∨ 0 = 14 ∨ 0 = 15 ∨ 0 = 16 ∨ 0 = 17 ∨ 0 = 18)) ∨ (30 = 89 ∧ 0 < 100) ∨ (90 ≤ 30 ∧ 30 < 98)) from by omega))
  have f33 : (-2147483648 : Int) ≤ σ2 30 0 ∧ σ2 30 0 ≤ 2147483647 := hIσ2 30 0
  have y34 : σ6 29 1 = σ2 29 1 := (hGσ6 29 1 (show ¬ ((29 = 88 ∧ (1 = 9 ∨ 1 = 10 ∨ 1 = 12 ∨ 1 = 13 ∨ 1 = 14 ∨ 1 = 15 ∨ 1 = 16 ∨ 1 = 17 ∨ 1 = 18)) ∨ (29 = 89 ∧ 1 < 100) ∨ (90 ≤ 29 ∧ 29 < 98)) from by omega))
  have f35 : (0 : Int) ≤ σ2 29 1 ∧ σ2 29 1 ≤ 999 := hIσ2 29 1
  have y36 : σ6 30 1 = σ2 30 1 := (hGσ6 30 1 (show ¬ ((30 = 88 ∧ (1 = 9 ∨ 1 = 10 ∨ 1 = 12 ∨ 1 = 13 ∨ 1 = 14 ∨ 1 = 15 ∨ 1 = 16 ∨ 1 = 17 ∨ 1 = 18)) ∨ (30 = 89 ∧ 1 < 100) ∨ (90 ≤ 30 ∧ 30 < 98)) from by omega))
  have f37 : (-2147483648 : Int) ≤ σ2 30 1 ∧ σ2 30 1 ≤ 2147483647 := hIσ2 30 1
  have y38 : σ6 37 0 = τ 37 0 := ((hGσ6 37 0 (show ¬ ((37 = 88 ∧ (0 = 9 ∨ 0 = 10 ∨ 0 = 12 ∨ 0 = 13 ∨ 0 = 14 ∨ 0 = 15 ∨ 0 = 16 ∨ 0 = 17 ∨ 0 = 18)) ∨ (37 = 89 ∧ 0 < 100) ∨ (90 ≤ 37 ∧ 37 < 98)) from by omega))).trans (hGσ2 37 0 (show ¬ ((37 = 10 ∧ (0 = 3 ∨ 0 = 4 ∨ 0 = 5 ∨ 0 = 6 ∨ 0 = 7 ∨ 0 = 8 ∨ 0 = 10 ∨ 0 = 11 ∨ 0 = 12 ∨ 0 = 13)) ∨ (12 ≤ 37 ∧ 37 < 14) ∨ (14 ≤ 37 ∧ 37 < 23) ∨ (1 ≤ 37 ∧ 37 < 10) ∨ (23 ≤ 37 ∧ 37 < 31) ∨ (37 = 31 ∧ (0 = 6)) ∨ (37 = 39 ∧ (0 = 6)) ∨ (37 = 60 ∧ (0 = 6 ∨ 0 = 7)) ∨ (37 = 71 ∧ (0 = 1)) ∨ (37 = 76 ∧ (0 = 1)) ∨ (37 = 0 ∧ (0 = 13))) from by omega))
  have f39 : (0 : Int) ≤ τ 37 0 ∧ τ 37 0 ≤ 999 := hIτ 37 0
  have y40 : σ6 38 0 = τ 38 0 := ((hGσ6 38 0 (show ¬ ((38 = 88 ∧ (0 = 9 ∨ 0 = 10 ∨ 0 = 12 ∨ 0 = 13 ∨ 0 = 14 ∨ 0 = 15 ∨ 0 = 16 ∨ 0 = 17 ∨ 0 = 18)) ∨ (38 = 89 ∧ 0 < 100) ∨ (90 ≤ 38 ∧ 38 < 98)) from by omega))).trans (hGσ2 38 0 (show ¬ ((38 = 10 ∧ (0 = 3 ∨ 0 = 4 ∨ 0 = 5 ∨ 0 = 6 ∨ 0 = 7 ∨ 0 = 8 ∨ 0 = 10 ∨ 0 = 11 ∨ 0 = 12 ∨ 0 = 13)) ∨ (12 ≤ 38 ∧ 38 < 14) ∨ (14 ≤ 38 ∧ 38 < 23) ∨ (1 ≤ 38 ∧ 38 < 10) ∨ (23 ≤ 38 ∧ 38 < 31) ∨ (38 = 31 ∧ (0 = 6)) ∨ (38 = 39 ∧ (0 = 6)) ∨ (38 = 60 ∧ (0 = 6 ∨ 0 = 7)) ∨ (38 = 71 ∧ (0 = 1)) ∨ (38 = 76 ∧ (0 = 1)) ∨ (38 = 0 ∧ (0 = 13))) from by omega))
  have f41 : (-2147483648 : Int) ≤ τ 38 0 ∧ τ 38 0 ≤ 2147483647 := hIτ 38 0
  have y42 : σ6 37 1 = τ 37 1 := ((hGσ6 37 1 (show ¬ ((37 = 88 ∧ (1 = 9 ∨ 1 = 10 ∨ 1 = 12 ∨ 1 = 13 ∨ 1 = 14 ∨ 1 = 15 ∨ 1 = 16 ∨ 1 = 17 ∨ 1 = 18)) ∨ (37 = 89 ∧ 1 < 100) ∨ (90 ≤ 37 ∧ 37 < 98)) from by omega))).trans (hGσ2 37 1 (show ¬ ((37 = 10 ∧ (1 = 3 ∨ 1 = 4 ∨ 1 = 5 ∨ 1 = 6 ∨ 1 = 7 ∨ 1 = 8 ∨ 1 = 10 ∨ 1 = 11 ∨ 1 = 12 ∨ 1 = 13)) ∨ (12 ≤ 37 ∧ 37 < 14) ∨ (14 ≤ 37 ∧ 37 < 23) ∨ (1 ≤ 37 ∧ 37 < 10) ∨ (23 ≤ 37 ∧ 37 < 31) ∨ (37 = 31 ∧ (1 = 6)) ∨ (37 = 39 ∧ (1 = 6)) ∨ (37 = 60 ∧ (1 = 6 ∨ 1 = 7)) ∨ (37 = 71 ∧ (1 = 1)) ∨ (37 = 76 ∧ (1 = 1)) ∨ (37 = 0 ∧ (1 = 13))) from by omega))
  have f43 : (0 : Int) ≤ τ 37 1 ∧ τ 37 1 ≤ 999 := hIτ 37 1
  have y44 : σ6 38 1 = τ 38 1 := ((hGσ6 38 1 (show ¬ ((38 = 88 ∧ (1 = 9 ∨ 1 = 10 ∨ 1 = 12 ∨ 1 = 13 ∨ 1 = 14 ∨ 1 = 15 ∨ 1 = 16 ∨ 1 = 17 ∨ 1 = 18)) ∨ (38 = 89 ∧ 1 < 100) ∨ (90 ≤ 38 ∧ 38 < 98)) from by omega))).trans (hGσ2 38 1 (show ¬ ((38 = 10 ∧ (1 = 3 ∨ 1 = 4 ∨ 1 = 5 ∨ 1 = 6 ∨ 1 = 7 ∨ 1 = 8 ∨ 1 = 10 ∨ 1 = 11 ∨ 1 = 12 ∨ 1 = 13)) ∨ (12 ≤ 38 ∧ 38 < 14) ∨ (14 ≤ 38 ∧ 38 < 23) ∨ (1 ≤ 38 ∧ 38 < 10) ∨ (23 ≤ 38 ∧ 38 < 31) ∨ (38 = 31 ∧ (1 = 6)) ∨ (38 = 39 ∧ (1 = 6)) ∨ (38 = 60 ∧ (1 = 6 ∨ 1 = 7)) ∨ (38 = 71 ∧ (1 = 1)) ∨ (38 = 76 ∧ (1 = 1)) ∨ (38 = 0 ∧ (1 = 13))) from by omega))
  have f45 : (-2147483648 : Int) ≤ τ 38 1 ∧ τ 38 1 ≤ 2147483647 := hIτ 38 1
  have y46 : σ6 45 0 = τ 45 0 := ((hGσ6 45 0 (show ¬ ((45 = 88 ∧ (0 = 9 ∨ 0 = 10 ∨ 0 = 12 ∨ 0 = 13 ∨ 0 = 14 ∨ 0 = 15 ∨ 0 = 16 ∨ 0 = 17 ∨ 0 = 18)) ∨ (45 = 89 ∧ 0 < 100) ∨ (90 ≤ 45 ∧ 45 < 98)) from by omega))).trans (hGσ2 45 0 (show ¬ ((45 = 10 ∧ (0 = 3 ∨ 0 = 4 ∨ 0 = 5 ∨ 0 = 6 ∨ 0 = 7 ∨ 0 = 8 ∨ 0 = 10 ∨ 0 = 11 ∨ 0 = 12 ∨ 0 = 13)) ∨ (12 ≤ 45 ∧ 45 < 14) ∨ (14 ≤ 45 ∧ 45 < 23) ∨ (1 ≤ 45 ∧ 45 < 10) ∨ (23 ≤ 45 ∧ 45 < 31) ∨ (45 = 31 ∧ (0 = 6)) ∨ (45 = 39 ∧ (0 = 6)) ∨ (45 = 60 ∧ (0 = 6 ∨ 0 = 7)) ∨ (45 = 71 ∧ (0 = 1)) ∨ (45 = 76 ∧ (0 = 1)) ∨ (45 = 0 ∧ (0 = 13))) from by omega))
  have f47 : (0 : Int) ≤ τ 45 0 ∧ τ 45 0 ≤ 999 := hIτ 45 0
  have y48 : σ6 46 0 = τ 46 0 := ((hGσ6 46 0 (show ¬ ((46 = 88 ∧ (0 = 9 ∨ 0 = 10 ∨ 0 = 12 ∨ 0 = 13 ∨ 0 = 14 ∨ 0 = 15 ∨ 0 = 16 ∨ 0 = 17 ∨ 0 = 18)) ∨ (46 = 89 ∧ 0 < 100) ∨ (90 ≤ 46 ∧ 46 < 98)) from by omega))).trans (hGσ2 46 0 (show ¬ ((46 = 10 ∧ (0 = 3 ∨ 0 = 4 ∨ 0 = 5 ∨ 0 = 6 ∨ 0 = 7 ∨ 0 = 8 ∨ 0 = 10 ∨ 0 = 11 ∨ 0 = 12 ∨ 0 = 13)) ∨ (12 ≤ 46 ∧ 46 < 14) ∨ (14 ≤ 46 ∧ 46 < 23) ∨ (1 ≤ 46 ∧ 46 < 10) ∨ (23 ≤ 46 ∧ 46 < 31) ∨ (46 = 31 ∧ (0 = 6)) ∨ (46 = 39 ∧ (0 = 6)) ∨ (46 = 60 ∧ (0 = 6 ∨ 0 = 7)) ∨ (46 = 71 ∧ (0 = 1)) ∨ (46 = 76 ∧ (0 = 1)) ∨ (46 = 0 ∧ (0 = 13))) from by omega))
  have f49 : (-2147483648 : Int) ≤ τ 46 0 ∧ τ 46 0 ≤ 2147483647 := hIτ 46 0
  have y50 : σ6 45 1 = τ 45 1 := ((hGσ6 45 1 (show ¬ ((45 = 88 ∧ (1 = 9 ∨ 1 = 10 ∨ 1 = 12 ∨ 1 = 13 ∨ 1 = 14 ∨ 1 = 15 ∨ 1 = 16 ∨ 1 = 17 ∨ 1 = 18)) ∨ (45 = 89 ∧ 1 < 100) ∨ (90 ≤ 45 ∧ 45 < 98)) from by omega))).trans (hGσ2 45 1 (show ¬ ((45 = 10 ∧ (1 = 3 ∨ 1 = 4 ∨ 1 = 5 ∨ 1 = 6 ∨ 1 = 7 ∨ 1 = 8 ∨ 1 = 10 ∨ 1 = 11 ∨ 1 = 12 ∨ 1 = 13)) ∨ (12 ≤ 45 ∧ 45 < 14) ∨ (14 ≤ 45 ∧ 45 < 23) ∨ (1 ≤ 45 ∧ 45 < 10) ∨ (23 ≤ 45 ∧ 45 < 31) ∨ (45 = 31 ∧ (1 = 6)) ∨ (45 = 39 ∧ (1 = 6)) ∨ (45 = 60 ∧ (1 = 6 ∨ 1 = 7)) ∨ (45 = 71 ∧ (1 = 1)) ∨ (45 = 76 ∧ (1 = 1)) ∨ (45 = 0 ∧ (1 = 13))) from by omega))
  have f51 : (0 : Int) ≤ τ 45 1 ∧ τ 45 1 ≤ 999 := hIτ 45 1
  have y52 : σ6 46 1 = τ 46 1 := ((hGσ6 46 1 (show ¬ ((46 = 88 ∧ (1 = 9 ∨ 1 = 10 ∨ 1 = 12 ∨ 1 = 13 ∨ 1 = 14 ∨ 1 = 15 ∨ 1 = 16 ∨ 1 = 17 ∨ 1 = 18)) ∨ (46 = 89 ∧ 1 < 100) ∨ (90 ≤ 46 ∧ 46 < 98)) from by omega))).trans (hGσ2 46 1 (show ¬ ((46 = 10 ∧ (1 = 3 ∨ 1 = 4 ∨ 1 = 5 ∨ 1 = 6 ∨ 1 = 7 ∨ 1 = 8 ∨ 1 = 10 ∨ 1 = 11 ∨ 1 = 12 ∨ 1 = 13)) ∨ (12 ≤ 46 ∧ 46 < 14) ∨ (14 ≤ 46 ∧ 46 < 23) ∨ (1 ≤ 46 ∧ 46 < 10) ∨ (23 ≤ 46 ∧ 46 < 31) ∨ (46 = 31 ∧ (1 = 6)) ∨ (46 = 39 ∧ (1 = 6)) ∨ (46 = 60 ∧ (1 = 6 ∨ 1 = 7)) ∨ (46 = 71 ∧ (1 = 1)) ∨ (46 = 76 ∧ (1 = 1)) ∨ (46 = 0 ∧ (1 = 13))) from by omega))
  have f53 : (-2147483648 : Int) ≤ τ 46 1 ∧ τ 46 1 ≤ 2147483647 := hIτ 46 1
  have u193 : σ6 89 193 = τ 89 193 := ((hGσ6 89 193 (show ¬ ((89 = 88 ∧ (193 = 9 ∨ 193 = 10 ∨ 193 = 12 ∨ 193 = 13 ∨ 193 = 14 ∨ 193 = 15 ∨ 193 = 16 ∨ 193 = 17 ∨ 193 = 18)) ∨ (89 = 89 ∧ 193 < 100) ∨ (90 ≤ 89 ∧ 89 < 98)) from by omega))).trans (hGσ2 89 193 (show ¬ ((89 = 10 ∧ (193 = 3 ∨ 193 = 4 ∨ 193 = 5 ∨ 193 = 6 ∨ 193 = 7 ∨ 193 = 8 ∨ 193 = 10 ∨ 193 = 11 ∨ 193 = 12 ∨ 193 = 13)) ∨ (12 ≤ 89 ∧ 89 < 14) ∨ (14 ≤ 89 ∧ 89 < 23) ∨ (1 ≤ 89 ∧ 89 < 10) ∨ (23 ≤ 89 ∧ 89 < 31) ∨ (89 = 31 ∧ (193 = 6)) ∨ (89 = 39 ∧ (193 = 6)) ∨ (89 = 60 ∧ (193 = 6 ∨ 193 = 7)) ∨ (89 = 71 ∧ (193 = 1)) ∨ (89 = 76 ∧ (193 = 1)) ∨ (89 = 0 ∧ (193 = 13))) from by omega))
  have u194 : σ6 89 194 = τ 89 194 := ((hGσ6 89 194 (show ¬ ((89 = 88 ∧ (194 = 9 ∨ 194 = 10 ∨ 194 = 12 ∨ 194 = 13 ∨ 194 = 14 ∨ 194 = 15 ∨ 194 = 16 ∨ 194 = 17 ∨ 194 = 18)) ∨ (89 = 89 ∧ 194 < 100) ∨ (90 ≤ 89 ∧ 89 < 98)) from by omega))).trans (hGσ2 89 194 (show ¬ ((89 = 10 ∧ (194 = 3 ∨ 194 = 4 ∨ 194 = 5 ∨ 194 = 6 ∨ 194 = 7 ∨ 194 = 8 ∨ 194 = 10 ∨ 194 = 11 ∨ 194 = 12 ∨ 194 = 13)) ∨ (12 ≤ 89 ∧ 89 < 14) ∨ (14 ≤ 89 ∧ 89 < 23) ∨ (1 ≤ 89 ∧ 89 < 10) ∨ (23 ≤ 89 ∧ 89 < 31) ∨ (89 = 31 ∧ (194 = 6)) ∨ (89 = 39 ∧ (194 = 6)) ∨ (89 = 60 ∧ (194 = 6 ∨ 194 = 7)) ∨ (89 = 71 ∧ (194 = 1)) ∨ (89 = 76 ∧ (194 = 1)) ∨ (89 = 0 ∧ (194 = 13))) from by omega))
  have u195 : σ6 89 195 = τ 89 195 := ((hGσ6 89 195 (show ¬ ((89 = 88 ∧ (195 = 9 ∨ 195 = 10 ∨ 195 = 12 ∨ 195 = 13 ∨ 195 = 14 ∨ 195 = 15 ∨ 195 = 16 ∨ 195 = 17 ∨ 195 = 18)) ∨ (89 = 89 ∧ 195 < 100) ∨ (90 ≤ 89 ∧ 89 < 98)) from by omega))).trans (hGσ2 89 195 (show ¬ ((89 = 10 ∧ (195 = 3 ∨ 195 = 4 ∨ 195 = 5 ∨ 195 = 6 ∨ 195 = 7 ∨ 195 = 8 ∨ 195 = 10 ∨ 195 = 11 ∨ 195 = 12 ∨ 195 = 13)) ∨ (12 ≤ 89 ∧ 89 < 14) ∨ (14 ≤ 89 ∧ 89 < 23) ∨ (1 ≤ 89 ∧ 89 < 10) ∨ (23 ≤ 89 ∧ 89 < 31) ∨ (89 = 31 ∧ (195 = 6)) ∨ (89 = 39 ∧ (195 = 6)) ∨ (89 = 60 ∧ (195 = 6 ∨ 195 = 7)) ∨ (89 = 71 ∧ (195 = 1)) ∨ (89 = 76 ∧ (195 = 1)) ∨ (89 = 0 ∧ (195 = 13))) from by omega))
  have u196 : σ6 89 196 = τ 89 196 := ((hGσ6 89 196 (show ¬ ((89 = 88 ∧ (196 = 9 ∨ 196 = 10 ∨ 196 = 12 ∨ 196 = 13 ∨ 196 = 14 ∨ 196 = 15 ∨ 196 = 16 ∨ 196 = 17 ∨ 196 = 18)) ∨ (89 = 89 ∧ 196 < 100) ∨ (90 ≤ 89 ∧ 89 < 98)) from by omega))).trans (hGσ2 89 196 (show ¬ ((89 = 10 ∧ (196 = 3 ∨ 196 = 4 ∨ 196 = 5 ∨ 196 = 6 ∨ 196 = 7 ∨ 196 = 8 ∨ 196 = 10 ∨ 196 = 11 ∨ 196 = 12 ∨ 196 = 13)) ∨ (12 ≤ 89 ∧ 89 < 14) ∨ (14 ≤ 89 ∧ 89 < 23) ∨ (1 ≤ 89 ∧ 89 < 10) ∨ (23 ≤ 89 ∧ 89 < 31) ∨ (89 = 31 ∧ (196 = 6)) ∨ (89 = 39 ∧ (196 = 6)) ∨ (89 = 60 ∧ (196 = 6 ∨ 196 = 7)) ∨ (89 = 71 ∧ (196 = 1)) ∨ (89 = 76 ∧ (196 = 1)) ∨ (89 = 0 ∧ (196 = 13))) from by omega))
  have u293 : σ6 89 293 = τ 89 293 := ((hGσ6 89 293 (show ¬ ((89 = 88 ∧ (293 = 9 ∨ 293 = 10 ∨ 293 = 12 ∨ 293 = 13 ∨ 293 = 14 ∨ 293 = 15 ∨ 293 = 16 ∨ 293 = 17 ∨ 293 = 18)) ∨ (89 = 89 ∧ 293 < 100) ∨ (90 ≤ 89 ∧ 89 < 98)) from by omega))).trans (hGσ2 89 293 (show ¬ ((89 = 10 ∧ (293 = 3 ∨ 293 = 4 ∨ 293 = 5 ∨ 293 = 6 ∨ 293 = 7 ∨ 293 = 8 ∨ 293 = 10 ∨ 293 = 11 ∨ 293 = 12 ∨ 293 = 13)) ∨ (12 ≤ 89 ∧ 89 < 14) ∨ (14 ≤ 89 ∧ 89 < 23) ∨ (1 ≤ 89 ∧ 89 < 10) ∨ (23 ≤ 89 ∧ 89 < 31) ∨ (89 = 31 ∧ (293 = 6)) ∨ (89 = 39 ∧ (293 = 6)) ∨ (89 = 60 ∧ (293 = 6 ∨ 293 = 7)) ∨ (89 = 71 ∧ (293 = 1)) ∨ (89 = 76 ∧ (293 = 1)) ∨ (89 = 0 ∧ (293 = 13))) from by omega))
  have u294 : σ6 89 294 = τ 89 294 := ((hGσ6 89 294 (show ¬ ((89 = 88 ∧ (294 = 9 ∨ 294 = 10 ∨ 294 = 12 ∨ 294 = 13 ∨ 294 = 14 ∨ 294 = 15 ∨ 294 = 16 ∨ 294 = 17 ∨ 294 = 18)) ∨ (89 = 89 ∧ 294 < 100) ∨ (90 ≤ 89 ∧ 89 < 98)) from by omega))).trans (hGσ2 89 294 (show ¬ ((89 = 10 ∧ (294 = 3 ∨ 294 = 4 ∨ 294 = 5 ∨ 294 = 6 ∨ 294 = 7 ∨ 294 = 8 ∨ 294 = 10 ∨ 294 = 11 ∨ 294 = 12 ∨ 294 = 13)) ∨ (12 ≤ 89 ∧ 89 < 14) ∨ (14 ≤ 89 ∧ 89 < 23) ∨ (1 ≤ 89 ∧ 89 < 10) ∨ (23 ≤ 89 ∧ 89 < 31) ∨ (89 = 31 ∧ (294 = 6)) ∨ (89 = 39 ∧ (294 = 6)) ∨ (89 = 60 ∧ (294 = 6 ∨ 294 = 7)) ∨ (89 = 71 ∧ (294 = 1)) ∨ (89 = 76 ∧ (294 = 1)) ∨ (89 = 0 ∧ (294 = 13))) from by omega))
  have u295 : σ6 89 295 = τ 89 295 := ((hGσ6 89 295 (show ¬ ((89 = 88 ∧ (295 = 9 ∨ 295 = 10 ∨ 295 = 12 ∨ 295 = 13 ∨ 295 = 14 ∨ 295 = 15 ∨ 295 = 16 ∨ 295 = 17 ∨ 295 = 18)) ∨ (89 = 89 ∧ 295 < 100) ∨ (90 ≤ 89 ∧ 89 < 98)) from by omega))).trans (hGσ2 89 295 (show ¬ ((89 = 10 ∧ (295 = 3 ∨ 295 = 4 ∨ 295 = 5 ∨ 295 = 6 ∨ 295 = 7 ∨ 295 = 8 ∨ 295 = 10 ∨ 295 = 11 ∨ 295 = 12 ∨ 295 = 13)) ∨ (12 ≤ 89 ∧ 89 < 14) ∨ (14 ≤ 89 ∧ 89 < 23) ∨ (1 ≤ 89 ∧ 89 < 10) ∨ (23 ≤ 89 ∧ 89 < 31) ∨ (89 = 31 ∧ (295 = 6)) ∨ (89 = 39 ∧ (295 = 6)) ∨ (89 = 60 ∧ (295 = 6 ∨ 295 = 7)) ∨ (89 = 71 ∧ (295 = 1)) ∨ (89 = 76 ∧ (295 = 1)) ∨ (89 = 0 ∧ (295 = 13))) from by omega))
  have u296 : σ6 89 296 = τ 89 296 := ((hGσ6 89 296 (show ¬ ((89 = 88 ∧ (296 = 9 ∨ 296 = 10 ∨ 296 = 12 ∨ 296 = 13 ∨ 296 = 14 ∨ 296 = 15 ∨ 296 = 16 ∨ 296 = 17 ∨ 296 = 18)) ∨ (89 = 89 ∧ 296 < 100) ∨ (90 ≤ 89 ∧ 89 < 98)) from by omega))).trans (hGσ2 89 296 (show ¬ ((89 = 10 ∧ (296 = 3 ∨ 296 = 4 ∨ 296 = 5 ∨ 296 = 6 ∨ 296 = 7 ∨ 296 = 8 ∨ 296 = 10 ∨ 296 = 11 ∨ 296 = 12 ∨ 296 = 13)) ∨ (12 ≤ 89 ∧ 89 < 14) ∨ (14 ≤ 89 ∧ 89 < 23) ∨ (1 ≤ 89 ∧ 89 < 10) ∨ (23 ≤ 89 ∧ 89 < 31) ∨ (89 = 31 ∧ (296 = 6)) ∨ (89 = 39 ∧ (296 = 6)) ∨ (89 = 60 ∧ (296 = 6 ∨ 296 = 7)) ∨ (89 = 71 ∧ (296 = 1)) ∨ (89 = 76 ∧ (296 = 1)) ∨ (89 = 0 ∧ (296 = 13))) from by omega))
  exact K σ6 hIσ6 ⟨mσ6, by omega, sσ6, bσ6, by omega, by omega, by omega, ⟨by clear t1 t2 t3 t5 t6 t7 t9 t10 t11 t12 t13 t14 t15 t16 t17 q3_0 q3_2 q3_3 q3_5 q3_6 q3_7 q3_8 q7_1 q7_3 q7_4 q7_6 q7_7 q7_8 q7_9; omega, by clear t0 t2 t3 t4 t6 t7 t8 t10 t11 t12 t13 t14 t15 t16 t17 q3_0 q3_2 q3_3 q3_4 q3_6 q3_7 q3_8 q7_1 q7_3 q7_4 q7_5 q7_7 q7_8 q7_9; omega, by clear t0 t1 t3 t4 t5 t7 t8 t9 t11 t12 t13 t14 t15 t16 t17 q3_0 q3_2 q3_3 q3_4 q3_5 q3_7 q3_8 q7_1 q7_3 q7_4 q7_5 q7_6 q7_8 q7_9; omega, by clear t0 t1 t2 t4 t5 t6 t8 t9 t10 t12 t13 t14 t15 t16 t17 q3_0 q3_2 q3_3 q3_4 q3_5 q3_6 q3_8 q7_1 q7_3 q7_4 q7_5 q7_6 q7_7 q7_9; omega, by clear t1 t2 t3 t5 t6 t7 t9 t10 t11 t12 t13 t14 t15 t16 t17 q3_0 q3_2 q3_3 q3_4 q3_5 q3_6 q3_7 q3_8 q7_1 q7_3 q7_4 q7_5 q7_6 q7_7 q7_8 q7_9; omega, by clear t0 t2 t3 t4 t6 t7 t8 t10 t11 t12 t13 t14 t15 t16 t17 q3_0 q3_2 q3_3 q3_4 q3_5 q3_6 q3_7 q3_8 q7_1 q7_3 q7_4 q7_5 q7_6 q7_7 q7_8 q7_9; omega, by clear t0 t1 t3 t4 t5 t7 t8 t9 t11 t12 t13 t14 t15 t16 t17 q3_0 q3_2 q3_3 q3_4 q3_5 q3_6 q3_7 q3_8 q7_1 q7_3 q7_4 q7_5 q7_6 q7_7 q7_8 q7_9; omega, by clear t0 t1 t2 t4 t5 t6 t8 t9 t10 t12 t13 t14 t15 t16 t17 q3_0 q3_2 q3_3 q3_4 q3_5 q3_6 q3_7 q3_8 q7_1 q7_3 q7_4 q7_5 q7_6 q7_7 q7_8 q7_9; omega, by clear t1 t2 t3 t5 t6 t7 t9 t10 t11 t12 t13 t14 t15 t16 t17 q3_0 q3_2 q3_3 q3_4 q3_5 q3_6 q3_7 q3_8 q7_1 q7_3 q7_4 q7_5 q7_6 q7_7 q7_8 q7_9; omega, by clear t0 t2 t3 t4 t6 t7 t8 t10 t11 t12 t13 t14 t15 t16 t17 q3_0 q3_2 q3_3 q3_4 q3_5 q3_6 q3_7 q3_8 q7_1 q7_3 q7_4 q7_5 q7_6 q7_7 q7_8 q7_9; omega, by clear t0 t1 t3 t4 t5 t7 t8 t9 t11 t12 t13 t14 t15 t16 t17 q3_0 q3_2 q3_3 q3_4 q3_5 q3_6 q3_7 q3_8 q7_1 q7_3 q7_4 q7_5 q7_6 q7_7 q7_8 q7_9; omega, by clear t0 t1 t2 t4 t5 t6 t8 t9 t10 t12 t13 t14 t15 t16 t17 q3_0 q3_2 q3_3 q3_4 q3_5 q3_6 q3_7 q3_8 q7_1 q7_3 q7_4 q7_5 q7_6 q7_7 q7_8 q7_9; omega, by clear t2 t3 t6 t7 t10 t11 t13 t15 t17 q3_0 q3_2 q3_3 q3_6 q3_7 q3_8 q7_1 q7_3 q7_4 q7_7 q7_8 q7_9; omega, by clear t0 t1 t4 t5 t8 t9 t12 t14 t16 q3_0 q3_2 q3_3 q3_4 q3_5 q3_8 q7_1 q7_3 q7_4 q7_5 q7_6 q7_9; omega, by clear t2 t3 t6 t7 t10 t11 t13 t15 t17 q3_0 q3_2 q3_3 q3_4 q3_5 q3_6 q3_7 q3_8 q7_1 q7_3 q7_4 q7_5 q7_6 q7_7 q7_8 q7_9; omega, by clear t0 t1 t4 t5 t8 t9 t12 t14 t16 q3_0 q3_2 q3_3 q3_4 q3_5 q3_6 q3_7 q3_8 q7_1 q7_3 q7_4 q7_5 q7_6 q7_7 q7_8 q7_9; omega, by clear t2 t3 t6 t7 t10 t11 t13 t15 t17 q3_0 q3_2 q3_3 q3_4 q3_5 q3_6 q3_7 q3_8 q7_1 q7_3 q7_4 q7_5 q7_6 q7_7 q7_8 q7_9; omega, by clear t0 t1 t4 t5 t8 t9 t12 t14 t16 q3_0 q3_2 q3_3 q3_4 q3_5 q3_6 q3_7 q3_8 q7_1 q7_3 q7_4 q7_5 q7_6 q7_7 q7_8 q7_9; omega⟩, st9⟩
set_option maxHeartbeats 4000000 in
set_option maxRecDepth 100000 in
theorem w_case_3 {G : tw_G} (hX : tw_isX G) (hM : tw_isM G) {E : List Frame → Array Value → State → State → Prop} (hN : (gN G : Int) ≤ 2560) (i : Int) (hi : 0 ≤ i ∧ i + 5 ≤ (gN G : Int)) (τ : tw_M) (hIτ : tw_I τ) (hL : tw_LI τ) (K : ∀ τ' : tw_M, tw_I τ' → tw_LI τ' → tw_J G tw_ML E 1352 [(0, vR 300), (1, vR 0), (2, vR 88), (3, vI i)] [] τ') : tw_J G tw_ML E 289 [(0, vR 300), (1, vR 0), (2, vR 88), (3, vI i)] [] τ := by
  obtain ⟨mτ, zτ, sτ, bτ, fτ, kτ0, kτ1, tτ, stτ⟩ := hL
  have g9 : (0 : Int) ≤ τ 10 10 ∧ τ 10 10 ≤ 400 := hIτ 10 10
  obtain ⟨v1, ev1⟩ : ∃ v : Int, v = (gxs G (i + 1).toNat).toInt := ⟨_, rfl⟩
  have hv1 : (-2147483648 : Int) ≤ v1 ∧ v1 ≤ 2147483647 := by rw [ev1]; exact i32_in _
  obtain ⟨v2, ev2⟩ : ∃ v : Int, v = (gxs G (i + 2).toNat).toInt := ⟨_, rfl⟩
  have hv2 : (-2147483648 : Int) ≤ v2 ∧ v2 ≤ 2147483647 := by rw [ev2]; exact i32_in _
  obtain ⟨v3, ev3⟩ : ∃ v : Int, v = (gxs G (i + 3).toNat).toInt := ⟨_, rfl⟩
  have hv3 : (-2147483648 : Int) ≤ v3 ∧ v3 ≤ 2147483647 := by rw [ev3]; exact i32_in _
  obtain ⟨v4, ev4⟩ : ∃ v : Int, v = (gxs G (i + 4).toNat).toInt := ⟨_, rfl⟩
  have hv4 : (-2147483648 : Int) ≤ v4 ∧ v4 ≤ 2147483647 := by rw [ev4]; exact i32_in _
  refine j_aload_n (pc := 289) dL_law_289 rfl rfl ?_
  refine j_callV (pc := 290) (As := []) (st := []) (c_X11_fault hX τ hIτ) mv_L_30 rfl rfl rfl (a_0 hX) dL_law_290 ⟨Nat.le_of_ble_eq_true rfl, Nat.le_of_ble_eq_true rfl⟩ ⟨Nat.le_of_ble_eq_true rfl, Nat.le_of_ble_eq_true rfl⟩ rfl (Nat.le_of_ble_eq_true rfl) rfl (fun z1 σ2 hz1 => ?_)
  obtain ⟨r4, rfl, hr4, rfl, q3_0⟩ := hz1
  replace q3_0 : r4 = τ 0 13 := q3_0
  refine j_st (st' := [vI r4]) rfl ?_
  refine j_pop (pc := 293) dL_law_293 rfl ?_
  refine j_aload_n (pc := 294) dL_law_294 rfl rfl ?_
  refine j_callV (pc := 295) (As := []) (st := []) (c_X12_fault hM τ hIτ) mv_L_33 rfl rfl rfl (a_88 hM) dL_law_295 ⟨Nat.le_of_ble_eq_true rfl, Nat.le_of_ble_eq_true rfl⟩ ⟨Nat.le_of_ble_eq_true rfl, Nat.le_of_ble_eq_true rfl⟩ rfl (Nat.le_of_ble_eq_true rfl) rfl (fun z5 σ6 hz5 => ?_)
  obtain ⟨r8, rfl, hr8, rfl, q7_0⟩ := hz5
  replace q7_0 : r8 = τ 88 17 := q7_0
  refine j_st (st' := [vI r8]) rfl ?_
  refine j_pop (pc := 298) dL_law_298 rfl ?_
  refine j_goto (pc := 299) (tgt := 1352) dL_law_299 rfl ?_
  exact K τ hIτ ⟨mτ, by omega, sτ, bτ, by omega, by omega, by omega, tτ, stτ⟩
set_option maxHeartbeats 4000000 in
set_option maxRecDepth 100000 in
theorem w_case_4 {G : tw_G} (hX : tw_isX G) (hM : tw_isM G) {E : List Frame → Array Value → State → State → Prop} (hN : (gN G : Int) ≤ 2560) (i : Int) (hi : 0 ≤ i ∧ i + 5 ≤ (gN G : Int)) (τ : tw_M) (hIτ : tw_I τ) (hL : tw_LI τ) (K : ∀ τ' : tw_M, tw_I τ' → tw_LI τ' → tw_J G tw_ML E 1352 [(0, vR 300), (1, vR 0), (2, vR 88), (3, vI i)] [] τ') : tw_J G tw_ML E 302 [(0, vR 300), (1, vR 0), (2, vR 88), (3, vI i)] [] τ := by
  obtain ⟨mτ, zτ, sτ, bτ, fτ, kτ0, kτ1, tτ, stτ⟩ := hL
  have g9 : (0 : Int) ≤ τ 10 10 ∧ τ 10 10 ≤ 400 := hIτ 10 10
  obtain ⟨v1, ev1⟩ : ∃ v : Int, v = (gxs G (i + 1).toNat).toInt := ⟨_, rfl⟩
  have hv1 : (-2147483648 : Int) ≤ v1 ∧ v1 ≤ 2147483647 := by rw [ev1]; exact i32_in _
  obtain ⟨v2, ev2⟩ : ∃ v : Int, v = (gxs G (i + 2).toNat).toInt := ⟨_, rfl⟩
  have hv2 : (-2147483648 : Int) ≤ v2 ∧ v2 ≤ 2147483647 := by rw [ev2]; exact i32_in _
  obtain ⟨v3, ev3⟩ : ∃ v : Int, v = (gxs G (i + 3).toNat).toInt := ⟨_, rfl⟩
  have hv3 : (-2147483648 : Int) ≤ v3 ∧ v3 ≤ 2147483647 := by rw [ev3]; exact i32_in _
  obtain ⟨v4, ev4⟩ : ∃ v : Int, v = (gxs G (i + 4).toNat).toInt := ⟨_, rfl⟩
  have hv4 : (-2147483648 : Int) ≤ v4 ∧ v4 ≤ 2147483647 := by rw [ev4]; exact i32_in _
  refine j_aload_n (pc := 302) dL_law_302 rfl rfl ?_
  refine j_aload_n (pc := 303) dL_law_303 rfl rfl ?_
  refine j_iload_n (pc := 304) dL_law_304 rfl rfl ?_
  refine j_iconst (pc := 305) dL_law_305 ?_
  refine j_iadd (pc := 306) dL_law_306 ?_
  refine j_scrAt (pc := 307) dL_law_307 (by omega) (by omega) (by omega) ?_
  refine j_topV (show _ = v1 from ev1.symm) ?_
  refine j_callV (pc := 308) (As := [vI v1]) (st := []) (c_X11_rule hX v1 ⟨by omega, by omega⟩ τ hIτ) mv_L_34 rfl rfl rfl (a_0 hX) dL_law_308 ⟨Nat.le_of_ble_eq_true rfl, Nat.le_of_ble_eq_true rfl⟩ ⟨Nat.le_of_ble_eq_true rfl, Nat.le_of_ble_eq_true rfl⟩ rfl (Nat.le_of_ble_eq_true rfl) rfl (fun z1 σ2 hz1 => ?_)
  obtain ⟨r4, rfl, hr4, rfl, q3_0⟩ := hz1
  replace q3_0 : (v1 = 5 ∧ r4 = τ 23 4) ∨ (v1 = 6 ∧ r4 = τ 23 5) ∨ ((0 ≤ v1 ∧ v1 < 9 ∧ ¬ v1 = 5 ∧ ¬ v1 = 6) ∧ r4 = τ 2 v1.toNat) ∨ ((11 ≤ v1 ∧ v1 ≤ 20) ∧ r4 = τ 28 (v1 - 10).toNat) ∨ (r4 = -1 ∧ ¬ (0 ≤ v1 ∧ v1 < 9) ∧ ¬ (11 ≤ v1 ∧ v1 ≤ 20)) := q3_0
  refine j_st (st' := [vI r4]) rfl ?_
  refine j_aload_n (pc := 311) dL_law_311 rfl rfl ?_
  refine j_aload_n (pc := 312) dL_law_312 rfl rfl ?_
  refine j_iload_n (pc := 313) dL_law_313 rfl rfl ?_
  refine j_iconst (pc := 314) dL_law_314 ?_
  refine j_iadd (pc := 315) dL_law_315 ?_
  refine j_scrAt (pc := 316) dL_law_316 (by omega) (by omega) (by omega) ?_
  refine j_topV (show _ = v1 from ev1.symm) ?_
  refine j_callV (pc := 317) (As := [vI v1]) (st := [vI r4]) (c_X12_rule hM v1 ⟨by omega, by omega⟩ τ hIτ) mv_L_37 rfl rfl rfl (a_88 hM) dL_law_317 ⟨Nat.le_of_ble_eq_true rfl, Nat.le_of_ble_eq_true rfl⟩ ⟨Nat.le_of_ble_eq_true rfl, Nat.le_of_ble_eq_true rfl⟩ rfl (Nat.le_of_ble_eq_true rfl) rfl (fun z5 σ6 hz5 => ?_)
  obtain ⟨r8, rfl, hr8, rfl, q7_0⟩ := hz5
  replace q7_0 : ((0 ≤ v1 ∧ v1 < 9) ∧ r8 = τ 91 v1.toNat) ∨ ((11 ≤ v1 ∧ v1 ≤ 20) ∧ r8 = τ 89 (72 + v1).toNat) ∨ (r8 = -1 ∧ ¬ (0 ≤ v1 ∧ v1 < 9) ∧ ¬ (11 ≤ v1 ∧ v1 ≤ 20)) := q7_0
  refine j_st (st' := [vI r8, vI r4]) rfl ?_
  have rr9 := ST_rule stτ q3_0 q7_0
  refine j_icmpR_eq (pc := 320) (tgt := 1352) ⟨by omega, by omega⟩ ⟨by omega, by omega⟩ dL_law_320 rfl (fun h9 => ?_) (fun h9 => ?_)
  · exact K τ hIτ ⟨mτ, by omega, sτ, bτ, by omega, by omega, by omega, tτ, stτ⟩
  · refine j_iconst (pc := 323) dL_law_323 ?_
    exfalso; omega
set_option maxHeartbeats 4000000 in
set_option maxRecDepth 100000 in
theorem w_case_5 {G : tw_G} (hX : tw_isX G) (hM : tw_isM G) {E : List Frame → Array Value → State → State → Prop} (hN : (gN G : Int) ≤ 2560) (i : Int) (hi : 0 ≤ i ∧ i + 5 ≤ (gN G : Int)) (τ : tw_M) (hIτ : tw_I τ) (hL : tw_LI τ) (K : ∀ τ' : tw_M, tw_I τ' → tw_LI τ' → tw_J G tw_ML E 1352 [(0, vR 300), (1, vR 0), (2, vR 88), (3, vI i)] [] τ') : tw_J G tw_ML E 325 [(0, vR 300), (1, vR 0), (2, vR 88), (3, vI i)] [] τ := by
  obtain ⟨mτ, zτ, sτ, bτ, fτ, kτ0, kτ1, tτ, stτ⟩ := hL
  have g9 : (0 : Int) ≤ τ 10 10 ∧ τ 10 10 ≤ 400 := hIτ 10 10
  obtain ⟨v1, ev1⟩ : ∃ v : Int, v = (gxs G (i + 1).toNat).toInt := ⟨_, rfl⟩
  have hv1 : (-2147483648 : Int) ≤ v1 ∧ v1 ≤ 2147483647 := by rw [ev1]; exact i32_in _
  obtain ⟨v2, ev2⟩ : ∃ v : Int, v = (gxs G (i + 2).toNat).toInt := ⟨_, rfl⟩
  have hv2 : (-2147483648 : Int) ≤ v2 ∧ v2 ≤ 2147483647 := by rw [ev2]; exact i32_in _
  obtain ⟨v3, ev3⟩ : ∃ v : Int, v = (gxs G (i + 3).toNat).toInt := ⟨_, rfl⟩
  have hv3 : (-2147483648 : Int) ≤ v3 ∧ v3 ≤ 2147483647 := by rw [ev3]; exact i32_in _
  obtain ⟨v4, ev4⟩ : ∃ v : Int, v = (gxs G (i + 4).toNat).toInt := ⟨_, rfl⟩
  have hv4 : (-2147483648 : Int) ≤ v4 ∧ v4 ≤ 2147483647 := by rw [ev4]; exact i32_in _
  refine j_aload_n (pc := 325) dL_law_325 rfl rfl ?_
  refine j_aload_n (pc := 326) dL_law_326 rfl rfl ?_
  refine j_iload_n (pc := 327) dL_law_327 rfl rfl ?_
  refine j_iconst (pc := 328) dL_law_328 ?_
  refine j_iadd (pc := 329) dL_law_329 ?_
  refine j_scrAt (pc := 330) dL_law_330 (by omega) (by omega) (by omega) ?_
  refine j_topV (show _ = v1 from ev1.symm) ?_
  refine j_aload_n (pc := 331) dL_law_331 rfl rfl ?_
  refine j_iload_n (pc := 332) dL_law_332 rfl rfl ?_
  refine j_iconst (pc := 333) dL_law_333 ?_
  refine j_iadd (pc := 334) dL_law_334 ?_
  refine j_scrAt (pc := 335) dL_law_335 (by omega) (by omega) (by omega) ?_
  refine j_topV (show _ = v2 from ev2.symm) ?_
  refine j_callV (pc := 336) (As := [vI v1, vI v2]) (st := []) (c_X11_foot hX v1 ⟨by omega, by omega⟩ v2 ⟨by omega, by omega⟩ τ hIτ) mv_L_38 rfl rfl rfl (a_0 hX) dL_law_336 ⟨Nat.le_of_ble_eq_true rfl, Nat.le_of_ble_eq_true rfl⟩ ⟨Nat.le_of_ble_eq_true rfl, Nat.le_of_ble_eq_true rfl⟩ rfl (Nat.le_of_ble_eq_true rfl) rfl (fun z1 σ2 hz1 => ?_)
  obtain ⟨r4, rfl, hr4, rfl, q3_0⟩ := hz1
  replace q3_0 : (r4 = -1 ∧ (¬ (1 ≤ v1 ∧ v1 ≤ τ 2 0) ∨ ¬ (0 ≤ v2 ∧ v2 ≤ 5))) ∨ ((1 ≤ v1 ∧ v1 ≤ τ 2 0) ∧ ((v2 = 0 ∧ r4 = τ 4 v1.toNat) ∨ (v2 = 1 ∧ r4 = τ 5 v1.toNat) ∨ (v2 = 2 ∧ r4 = τ 6 v1.toNat) ∨ (v2 = 3 ∧ r4 = τ 7 v1.toNat) ∨ (v2 = 4 ∧ r4 = τ 8 v1.toNat) ∨ (v2 = 5 ∧ ((0 ≤ r4 ∧ r4 < τ 24 0 ∧ τ 25 r4.toNat = v1) ∨ (r4 = -4 ∧ ∀ k : Nat, (k : Int) < τ 24 0 → ¬ τ 25 k = v1))))) := q3_0
  refine j_st (st' := [vI r4]) rfl ?_
  refine j_pop (pc := 339) dL_law_339 rfl ?_
  refine j_aload_n (pc := 340) dL_law_340 rfl rfl ?_
  refine j_aload_n (pc := 341) dL_law_341 rfl rfl ?_
  refine j_iload_n (pc := 342) dL_law_342 rfl rfl ?_
  refine j_iconst (pc := 343) dL_law_343 ?_
  refine j_iadd (pc := 344) dL_law_344 ?_
  refine j_scrAt (pc := 345) dL_law_345 (by omega) (by omega) (by omega) ?_
  refine j_topV (show _ = v1 from ev1.symm) ?_
  refine j_aload_n (pc := 346) dL_law_346 rfl rfl ?_
  refine j_iload_n (pc := 347) dL_law_347 rfl rfl ?_
  refine j_iconst (pc := 348) dL_law_348 ?_
  refine j_iadd (pc := 349) dL_law_349 ?_
  refine j_scrAt (pc := 350) dL_law_350 (by omega) (by omega) (by omega) ?_
  refine j_topV (show _ = v2 from ev2.symm) ?_
  refine j_callV (pc := 351) (As := [vI v1, vI v2]) (st := []) (c_X12_foot hM v1 ⟨by omega, by omega⟩ v2 ⟨by omega, by omega⟩ τ hIτ) mv_L_42 rfl rfl rfl (a_88 hM) dL_law_351 ⟨Nat.le_of_ble_eq_true rfl, Nat.le_of_ble_eq_true rfl⟩ ⟨Nat.le_of_ble_eq_true rfl, Nat.le_of_ble_eq_true rfl⟩ rfl (Nat.le_of_ble_eq_true rfl) rfl (fun z5 σ6 hz5 => ?_)
  obtain ⟨r8, rfl, hr8, rfl, q7_0⟩ := hz5
  replace q7_0 : (r8 = -1 ∧ (¬ (1 ≤ v1 ∧ v1 ≤ τ 91 0) ∨ ¬ (0 ≤ v2 ∧ v2 ≤ 5))) ∨ ((1 ≤ v1 ∧ v1 ≤ τ 91 0) ∧ ((0 ≤ v2 ∧ v2 ≤ 4 ∧ r8 = τ 92 (5 * v1 + v2).toNat) ∨ (v2 = 5 ∧ ((0 < τ 89 v1.toNat ∧ r8 = cnt (gM 0 τ) v1.toNat - 1) ∨ (τ 89 v1.toNat ≤ 0 ∧ r8 = -4))))) := q7_0
  refine j_st (st' := [vI r8]) rfl ?_
  have rr9 := ST_foot stτ q3_0 q7_0 (show (1 : Int) ≤ τ 91 0 ∧ τ 91 0 ≤ 40 from hIτ 91 0).2
  clear q3_0 q7_0
  refine j_pop (pc := 354) dL_law_354 rfl ?_
  refine j_goto (pc := 355) (tgt := 1352) dL_law_355 rfl ?_
  exact K τ hIτ ⟨mτ, by omega, sτ, bτ, by omega, by omega, by omega, tτ, stτ⟩
set_option maxHeartbeats 4000000 in
set_option maxRecDepth 100000 in
theorem w_case_6 {G : tw_G} (hX : tw_isX G) (hM : tw_isM G) {E : List Frame → Array Value → State → State → Prop} (hN : (gN G : Int) ≤ 2560) (i : Int) (hi : 0 ≤ i ∧ i + 5 ≤ (gN G : Int)) (τ : tw_M) (hIτ : tw_I τ) (hL : tw_LI τ) (K : ∀ τ' : tw_M, tw_I τ' → tw_LI τ' → tw_J G tw_ML E 1352 [(0, vR 300), (1, vR 0), (2, vR 88), (3, vI i)] [] τ') : tw_J G tw_ML E 358 [(0, vR 300), (1, vR 0), (2, vR 88), (3, vI i)] [] τ := by
  obtain ⟨mτ, zτ, sτ, bτ, fτ, kτ0, kτ1, tτ, stτ⟩ := hL
  have g9 : (0 : Int) ≤ τ 10 10 ∧ τ 10 10 ≤ 400 := hIτ 10 10
  obtain ⟨v1, ev1⟩ : ∃ v : Int, v = (gxs G (i + 1).toNat).toInt := ⟨_, rfl⟩
  have hv1 : (-2147483648 : Int) ≤ v1 ∧ v1 ≤ 2147483647 := by rw [ev1]; exact i32_in _
  obtain ⟨v2, ev2⟩ : ∃ v : Int, v = (gxs G (i + 2).toNat).toInt := ⟨_, rfl⟩
  have hv2 : (-2147483648 : Int) ≤ v2 ∧ v2 ≤ 2147483647 := by rw [ev2]; exact i32_in _
  obtain ⟨v3, ev3⟩ : ∃ v : Int, v = (gxs G (i + 3).toNat).toInt := ⟨_, rfl⟩
  have hv3 : (-2147483648 : Int) ≤ v3 ∧ v3 ≤ 2147483647 := by rw [ev3]; exact i32_in _
  obtain ⟨v4, ev4⟩ : ∃ v : Int, v = (gxs G (i + 4).toNat).toInt := ⟨_, rfl⟩
  have hv4 : (-2147483648 : Int) ≤ v4 ∧ v4 ≤ 2147483647 := by rw [ev4]; exact i32_in _
  refine j_aload_n (pc := 358) dL_law_358 rfl rfl ?_
  refine j_aload_n (pc := 359) dL_law_359 rfl rfl ?_
  refine j_iload_n (pc := 360) dL_law_360 rfl rfl ?_
  refine j_iconst (pc := 361) dL_law_361 ?_
  refine j_iadd (pc := 362) dL_law_362 ?_
  refine j_scrAt (pc := 363) dL_law_363 (by omega) (by omega) (by omega) ?_
  refine j_topV (show _ = v1 from ev1.symm) ?_
  refine j_aload_n (pc := 364) dL_law_364 rfl rfl ?_
  refine j_iload_n (pc := 365) dL_law_365 rfl rfl ?_
  refine j_iconst (pc := 366) dL_law_366 ?_
  refine j_iadd (pc := 367) dL_law_367 ?_
  refine j_scrAt (pc := 368) dL_law_368 (by omega) (by omega) (by omega) ?_
  refine j_topV (show _ = v2 from ev2.symm) ?_
  refine j_callV (pc := 369) (As := [vI v1, vI v2]) (st := []) (c_X11_put hX v1 ⟨by omega, by omega⟩ v2 ⟨by omega, by omega⟩ τ hIτ) mv_L_43 rfl rfl rfl (a_0 hX) dL_law_369 ⟨Nat.le_of_ble_eq_true rfl, Nat.le_of_ble_eq_true rfl⟩ ⟨Nat.le_of_ble_eq_true rfl, Nat.le_of_ble_eq_true rfl⟩ rfl (Nat.le_of_ble_eq_true rfl) rfl (fun z1 σ2 hz1 => ?_)
  obtain ⟨r4, rfl, hr4, hIσ2, hGσ2, q3_0⟩ := hz1
  replace q3_0 : ∀ gg qq : Nat → Int, RG 24 gg qq τ → (1 ≤ v2 → v2 ≤ 10 → 0 ≤ τ 28 v2.toNat) → (¬ whyS (wW 1 τ) (gg v1.toNat) (τ 24 0) (τ 28 v2.toNat) v1 v2 = 0 ∧ r4 = whyS (wW 1 τ) (gg v1.toNat) (τ 24 0) (τ 28 v2.toNat) v1 v2 ∧ ∀ c j, σ2 c j = τ c j) ∨ (whyS (wW 1 τ) (gg v1.toNat) (τ 24 0) (τ 28 v2.toNat) v1 v2 = 0 ∧ r4 = cnt gg v1.toNat ∧ RG 24 (pg gg v1.toNat v2) (pg qq v1.toNat 0) σ2 ∧ σ2 28 v2.toNat = τ 28 v2.toNat - 1 ∧ ∀ j : Nat, ¬ j = v2.toNat → σ2 28 j = τ 28 j) := q3_0
  refine j_st (st' := [vI r4]) rfl ?_
  have y5 : σ2 10 10 = τ 10 10 := (hGσ2 10 10 (show ¬ ((24 ≤ 10 ∧ 10 < 29)) from by omega))
  have f6 : (0 : Int) ≤ τ 10 10 ∧ τ 10 10 ≤ 400 := hIτ 10 10
  have bσ2 : BY σ2 := BY_kept bτ (fun j => hGσ2 11 j (show ¬ ((24 ≤ 11 ∧ 11 < 29)) from by omega)) (fun j => hGσ2 98 j (show ¬ ((24 ≤ 98 ∧ 98 < 29)) from by omega)) (by omega)
  have mσ2 : mI σ2 := mI_kept mτ (fun j hj => hGσ2 89 j (show ¬ ((24 ≤ 89 ∧ 89 < 29)) from by omega)) (fun j => hGσ2 90 j (show ¬ ((24 ≤ 90 ∧ 90 < 29)) from by omega)) (hGσ2 91 0 (show ¬ ((24 ≤ 91 ∧ 91 < 29)) from by omega)) hIτ
  have sσ2 : SR σ2 := SR_kept sτ (fun c j h => hGσ2 c j (show ¬ ((24 ≤ c ∧ c < 29)) from by omega)) (fun j => hGσ2 104 j (show ¬ ((24 ≤ 104 ∧ 104 < 29)) from by omega)) (fun j => hGσ2 105 j (show ¬ ((24 ≤ 105 ∧ 105 < 29)) from by omega))
  have tσ2 : TT σ2 := TT_kept tτ (fun c j h => hGσ2 c j (show ¬ ((24 ≤ c ∧ c < 29)) from by omega)) (fun j h => hGσ2 89 j (show ¬ ((24 ≤ 89 ∧ 89 < 29)) from by omega))
  refine j_pop (pc := 372) dL_law_372 rfl ?_
  refine j_aload_n (pc := 373) dL_law_373 rfl rfl ?_
  refine j_aload_n (pc := 374) dL_law_374 rfl rfl ?_
  refine j_iload_n (pc := 375) dL_law_375 rfl rfl ?_
  refine j_iconst (pc := 376) dL_law_376 ?_
  refine j_iadd (pc := 377) dL_law_377 ?_
  refine j_scrAt (pc := 378) dL_law_378 (by omega) (by omega) (by omega) ?_
  refine j_topV (show _ = v1 from ev1.symm) ?_
  refine j_aload_n (pc := 379) dL_law_379 rfl rfl ?_
  refine j_iload_n (pc := 380) dL_law_380 rfl rfl ?_
  refine j_iconst (pc := 381) dL_law_381 ?_
  refine j_iadd (pc := 382) dL_law_382 ?_
  refine j_scrAt (pc := 383) dL_law_383 (by omega) (by omega) (by omega) ?_
  refine j_topV (show _ = v2 from ev2.symm) ?_
  refine j_callV (pc := 384) (As := [vI v1, vI v2]) (st := []) (c_X12_put hM v1 ⟨by omega, by omega⟩ v2 ⟨by omega, by omega⟩ σ2 hIσ2 mσ2) mv_L_46 rfl rfl rfl (a_88 hM) dL_law_384 ⟨Nat.le_of_ble_eq_true rfl, Nat.le_of_ble_eq_true rfl⟩ ⟨Nat.le_of_ble_eq_true rfl, Nat.le_of_ble_eq_true rfl⟩ rfl (Nat.le_of_ble_eq_true rfl) rfl (fun z7 σ8 hz7 => ?_)
  obtain ⟨r10, rfl, hr10, hIσ8, hGσ8, q9_0, q9_1⟩ := hz7
  replace q9_0 : mI σ8 := q9_0
  replace q9_1 : (¬ whyS (wM σ2) (gM 0 σ2 v1.toNat) (cnt (gM 0 σ2) (σ2 91 0).toNat) (σ2 89 (82 + v2).toNat) v1 v2 = 0 ∧ r10 = whyS (wM σ2) (gM 0 σ2 v1.toNat) (cnt (gM 0 σ2) (σ2 91 0).toNat) (σ2 89 (82 + v2).toNat) v1 v2 ∧ ∀ c j, σ8 c j = σ2 c j) ∨ (whyS (wM σ2) (gM 0 σ2 v1.toNat) (cnt (gM 0 σ2) (σ2 91 0).toNat) (σ2 89 (82 + v2).toNat) v1 v2 = 0 ∧ r10 = cnt (gM 0 σ2) v1.toNat ∧ σ8 89 v1.toNat = v2 ∧ σ8 89 (41 + v1).toNat = 0 ∧ (σ2 89 (82 + v2).toNat < 0 ∨ σ8 89 (82 + v2).toNat = σ2 89 (82 + v2).toNat - 1) ∧ ∀ j : Nat, ¬ j = v1.toNat → ¬ j = (41 + v1).toNat → ¬ j = (82 + v2).toNat → σ8 89 j = σ2 89 j) := q9_1
  have y11 : σ2 91 0 = τ 91 0 := (hGσ2 91 0 (show ¬ ((24 ≤ 91 ∧ 91 < 29)) from by omega))
  have f12 : (1 : Int) ≤ τ 91 0 ∧ τ 91 0 ≤ 40 := hIτ 91 0
  have y13 : σ2 89 ((82 + v2).toNat) = τ 89 ((82 + v2).toNat) := (hGσ2 89 ((82 + v2).toNat) (show ¬ ((24 ≤ 89 ∧ 89 < 29)) from by omega))
  refine j_st (st' := [vI r10]) rfl ?_
  have y14 : σ8 10 10 = τ 10 10 := ((hGσ8 10 10 (show ¬ ((10 = 89 ∧ 10 < 93)) from by omega))).trans (hGσ2 10 10 (show ¬ ((24 ≤ 10 ∧ 10 < 29)) from by omega))
  have bσ8 : BY σ8 := BY_kept bσ2 (fun j => hGσ8 11 j (show ¬ ((11 = 89 ∧ j < 93)) from by omega)) (fun j => hGσ8 98 j (show ¬ ((98 = 89 ∧ j < 93)) from by omega)) (by omega)
  have mσ8 : mI σ8 := q9_0
  have sσ8 : SR σ8 := SR_kept sσ2 (fun c j h => hGσ8 c j (show ¬ ((c = 89 ∧ j < 93)) from by omega)) (fun j => hGσ8 104 j (show ¬ ((104 = 89 ∧ j < 93)) from by omega)) (fun j => hGσ8 105 j (show ¬ ((105 = 89 ∧ j < 93)) from by omega))
  have tσ8 : TT σ8 := TT_kept tσ2 (fun c j h => hGσ8 c j (show ¬ ((c = 89 ∧ j < 93)) from by omega)) (fun j h => hGσ8 89 j (show ¬ ((89 = 89 ∧ j < 93)) from by omega))
  have ht9 : (1 : Int) ≤ τ 91 0 ∧ τ 91 0 ≤ 40 := hIτ 91 0
  have st9 := ST_put stτ ht9 q3_0 q9_1 (fun c j h => hGσ2 c j (show ¬ ((24 ≤ c ∧ c < 29)) from by omega)) (fun c j h => hGσ8 c j (show ¬ ((c = 89 ∧ j < 93)) from by omega))
  have rr9 := st9.2
  clear q3_0 q9_1
  refine j_pop (pc := 387) dL_law_387 rfl ?_
  refine j_goto (pc := 388) (tgt := 1352) dL_law_388 rfl ?_
  have y15 : σ8 10 10 = τ 10 10 := ((hGσ8 10 10 (show ¬ ((10 = 89 ∧ 10 < 93)) from by omega))).trans (hGσ2 10 10 (show ¬ ((24 ≤ 10 ∧ 10 < 29)) from by omega))
  have y16 : σ8 88 12 = τ 88 12 := ((hGσ8 88 12 (show ¬ ((88 = 89 ∧ 12 < 93)) from by omega))).trans (hGσ2 88 12 (show ¬ ((24 ≤ 88 ∧ 88 < 29)) from by omega))
  have f17 : (0 : Int) ≤ τ 88 12 ∧ τ 88 12 ≤ 400 := hIτ 88 12
  have y18 : σ8 0 13 = τ 0 13 := ((hGσ8 0 13 (show ¬ ((0 = 89 ∧ 13 < 93)) from by omega))).trans (hGσ2 0 13 (show ¬ ((24 ≤ 0 ∧ 0 < 29)) from by omega))
  have f19 : (-2147483648 : Int) ≤ τ 0 13 ∧ τ 0 13 ≤ 2147483647 := hIτ 0 13
  have y20 : σ8 88 17 = τ 88 17 := ((hGσ8 88 17 (show ¬ ((88 = 89 ∧ 17 < 93)) from by omega))).trans (hGσ2 88 17 (show ¬ ((24 ≤ 88 ∧ 88 < 29)) from by omega))
  have f21 : (0 : Int) ≤ τ 88 17 ∧ τ 88 17 ≤ 5 := hIτ 88 17
  have y22 : σ8 31 6 = τ 31 6 := ((hGσ8 31 6 (show ¬ ((31 = 89 ∧ 6 < 93)) from by omega))).trans (hGσ2 31 6 (show ¬ ((24 ≤ 31 ∧ 31 < 29)) from by omega))
  have f23 : (0 : Int) ≤ τ 31 6 ∧ τ 31 6 ≤ 1 := hIτ 31 6
  have y24 : σ8 39 6 = τ 39 6 := ((hGσ8 39 6 (show ¬ ((39 = 89 ∧ 6 < 93)) from by omega))).trans (hGσ2 39 6 (show ¬ ((24 ≤ 39 ∧ 39 < 29)) from by omega))
  have f25 : (0 : Int) ≤ τ 39 6 ∧ τ 39 6 ≤ 1 := hIτ 39 6
  have y26 : σ8 90 0 = τ 90 0 := ((hGσ8 90 0 (show ¬ ((90 = 89 ∧ 0 < 93)) from by omega))).trans (hGσ2 90 0 (show ¬ ((24 ≤ 90 ∧ 90 < 29)) from by omega))
  have f27 : (0 : Int) ≤ τ 90 0 ∧ τ 90 0 ≤ 1 := hIτ 90 0
  have y28 : σ8 90 1 = τ 90 1 := ((hGσ8 90 1 (show ¬ ((90 = 89 ∧ 1 < 93)) from by omega))).trans (hGσ2 90 1 (show ¬ ((24 ≤ 90 ∧ 90 < 29)) from by omega))
  have f29 : (0 : Int) ≤ τ 90 1 ∧ τ 90 1 ≤ 1 := hIτ 90 1
  exact K σ8 hIσ8 ⟨mσ8, by omega, sσ8, bσ8, by omega, by omega, by omega, tσ8, st9.1⟩
set_option maxHeartbeats 4000000 in
set_option maxRecDepth 100000 in
theorem w_case_7 {G : tw_G} (hX : tw_isX G) (hM : tw_isM G) {E : List Frame → Array Value → State → State → Prop} (hN : (gN G : Int) ≤ 2560) (i : Int) (hi : 0 ≤ i ∧ i + 5 ≤ (gN G : Int)) (τ : tw_M) (hIτ : tw_I τ) (hL : tw_LI τ) (K : ∀ τ' : tw_M, tw_I τ' → tw_LI τ' → tw_J G tw_ML E 1352 [(0, vR 300), (1, vR 0), (2, vR 88), (3, vI i)] [] τ') : tw_J G tw_ML E 391 [(0, vR 300), (1, vR 0), (2, vR 88), (3, vI i)] [] τ := by
  obtain ⟨mτ, zτ, sτ, bτ, fτ, kτ0, kτ1, tτ, stτ⟩ := hL
  have g9 : (0 : Int) ≤ τ 10 10 ∧ τ 10 10 ≤ 400 := hIτ 10 10
  obtain ⟨v1, ev1⟩ : ∃ v : Int, v = (gxs G (i + 1).toNat).toInt := ⟨_, rfl⟩
  have hv1 : (-2147483648 : Int) ≤ v1 ∧ v1 ≤ 2147483647 := by rw [ev1]; exact i32_in _
  obtain ⟨v2, ev2⟩ : ∃ v : Int, v = (gxs G (i + 2).toNat).toInt := ⟨_, rfl⟩
  have hv2 : (-2147483648 : Int) ≤ v2 ∧ v2 ≤ 2147483647 := by rw [ev2]; exact i32_in _
  obtain ⟨v3, ev3⟩ : ∃ v : Int, v = (gxs G (i + 3).toNat).toInt := ⟨_, rfl⟩
  have hv3 : (-2147483648 : Int) ≤ v3 ∧ v3 ≤ 2147483647 := by rw [ev3]; exact i32_in _
  obtain ⟨v4, ev4⟩ : ∃ v : Int, v = (gxs G (i + 4).toNat).toInt := ⟨_, rfl⟩
  have hv4 : (-2147483648 : Int) ≤ v4 ∧ v4 ≤ 2147483647 := by rw [ev4]; exact i32_in _
  refine j_aload_n (pc := 391) dL_law_391 rfl rfl ?_
  refine j_aload_n (pc := 392) dL_law_392 rfl rfl ?_
  refine j_iload_n (pc := 393) dL_law_393 rfl rfl ?_
  refine j_iconst (pc := 394) dL_law_394 ?_
  refine j_iadd (pc := 395) dL_law_395 ?_
  refine j_scrAt (pc := 396) dL_law_396 (by omega) (by omega) (by omega) ?_
  refine j_topV (show _ = v1 from ev1.symm) ?_
  refine j_callV (pc := 397) (As := [vI v1]) (st := []) (c_X11_take hX v1 ⟨by omega, by omega⟩ τ hIτ) mv_L_47 rfl rfl rfl (a_0 hX) dL_law_397 ⟨Nat.le_of_ble_eq_true rfl, Nat.le_of_ble_eq_true rfl⟩ ⟨Nat.le_of_ble_eq_true rfl, Nat.le_of_ble_eq_true rfl⟩ rfl (Nat.le_of_ble_eq_true rfl) rfl (fun z1 σ2 hz1 => ?_)
  obtain ⟨r4, rfl, hr4, hIσ2, hGσ2, q3_0⟩ := hz1
  replace q3_0 : ∀ gg qq rk : Nat → Int, RG 24 gg qq τ → CNR rk gg 28 τ → (r4 = -1 ∧ ¬ (1 ≤ v1 ∧ v1 ≤ τ 2 0) ∧ ∀ c j, σ2 c j = τ c j) ∨ (r4 = -4 ∧ (1 ≤ v1 ∧ v1 ≤ τ 2 0) ∧ gg v1.toNat = 0 ∧ ∀ c j, σ2 c j = τ c j) ∨ ((1 ≤ v1 ∧ v1 ≤ τ 2 0) ∧ 0 < gg v1.toNat ∧ gg v1.toNat ≤ 10 ∧ r4 = gg v1.toNat ∧ RG 24 (pg gg v1.toNat 0) qq σ2 ∧ σ2 28 r4.toNat = τ 28 r4.toNat + 1 ∧ ∀ j : Nat, ¬ j = r4.toNat → σ2 28 j = τ 28 j) := q3_0
  refine j_st (st' := [vI r4]) rfl ?_
  have y5 : σ2 10 10 = τ 10 10 := (hGσ2 10 10 (show ¬ ((24 ≤ 10 ∧ 10 < 29)) from by omega))
  have f6 : (0 : Int) ≤ τ 10 10 ∧ τ 10 10 ≤ 400 := hIτ 10 10
  have bσ2 : BY σ2 := BY_kept bτ (fun j => hGσ2 11 j (show ¬ ((24 ≤ 11 ∧ 11 < 29)) from by omega)) (fun j => hGσ2 98 j (show ¬ ((24 ≤ 98 ∧ 98 < 29)) from by omega)) (by omega)
  have mσ2 : mI σ2 := mI_kept mτ (fun j hj => hGσ2 89 j (show ¬ ((24 ≤ 89 ∧ 89 < 29)) from by omega)) (fun j => hGσ2 90 j (show ¬ ((24 ≤ 90 ∧ 90 < 29)) from by omega)) (hGσ2 91 0 (show ¬ ((24 ≤ 91 ∧ 91 < 29)) from by omega)) hIτ
  have sσ2 : SR σ2 := SR_kept sτ (fun c j h => hGσ2 c j (show ¬ ((24 ≤ c ∧ c < 29)) from by omega)) (fun j => hGσ2 104 j (show ¬ ((24 ≤ 104 ∧ 104 < 29)) from by omega)) (fun j => hGσ2 105 j (show ¬ ((24 ≤ 105 ∧ 105 < 29)) from by omega))
  have tσ2 : TT σ2 := TT_kept tτ (fun c j h => hGσ2 c j (show ¬ ((24 ≤ c ∧ c < 29)) from by omega)) (fun j h => hGσ2 89 j (show ¬ ((24 ≤ 89 ∧ 89 < 29)) from by omega))
  refine j_pop (pc := 400) dL_law_400 rfl ?_
  refine j_aload_n (pc := 401) dL_law_401 rfl rfl ?_
  refine j_aload_n (pc := 402) dL_law_402 rfl rfl ?_
  refine j_iload_n (pc := 403) dL_law_403 rfl rfl ?_
  refine j_iconst (pc := 404) dL_law_404 ?_
  refine j_iadd (pc := 405) dL_law_405 ?_
  refine j_scrAt (pc := 406) dL_law_406 (by omega) (by omega) (by omega) ?_
  refine j_topV (show _ = v1 from ev1.symm) ?_
  refine j_callV (pc := 407) (As := [vI v1]) (st := []) (c_X12_take hM v1 ⟨by omega, by omega⟩ σ2 hIσ2 mσ2) mv_L_50 rfl rfl rfl (a_88 hM) dL_law_407 ⟨Nat.le_of_ble_eq_true rfl, Nat.le_of_ble_eq_true rfl⟩ ⟨Nat.le_of_ble_eq_true rfl, Nat.le_of_ble_eq_true rfl⟩ rfl (Nat.le_of_ble_eq_true rfl) rfl (fun z7 σ8 hz7 => ?_)
  obtain ⟨r10, rfl, hr10, hIσ8, hGσ8, q9_0, q9_1⟩ := hz7
  replace q9_0 : mI σ8 := q9_0
  replace q9_1 : (r10 = -1 ∧ ¬ (1 ≤ v1 ∧ v1 ≤ σ2 91 0) ∧ ∀ c j, σ8 c j = σ2 c j) ∨ (r10 = -4 ∧ (1 ≤ v1 ∧ v1 ≤ σ2 91 0) ∧ σ2 89 v1.toNat = 0 ∧ ∀ c j, σ8 c j = σ2 c j) ∨ ((1 ≤ v1 ∧ v1 ≤ σ2 91 0) ∧ 0 < σ2 89 v1.toNat ∧ r10 = σ2 89 v1.toNat ∧ r10 ≤ 10 ∧ σ8 89 v1.toNat = 0 ∧ σ8 89 (41 + v1).toNat = 0 ∧ (1000 < σ2 89 (82 + r10).toNat ∨ σ2 89 (82 + r10).toNat < 0 ∨ σ8 89 (82 + r10).toNat = σ2 89 (82 + r10).toNat + 1) ∧ ∀ j : Nat, ¬ j = v1.toNat → ¬ j = (41 + v1).toNat → ¬ j = (82 + r10).toNat → σ8 89 j = σ2 89 j) := q9_1
  have y11 : σ2 91 0 = τ 91 0 := (hGσ2 91 0 (show ¬ ((24 ≤ 91 ∧ 91 < 29)) from by omega))
  have f12 : (1 : Int) ≤ τ 91 0 ∧ τ 91 0 ≤ 40 := hIτ 91 0
  have y13 : σ2 89 (v1.toNat) = τ 89 (v1.toNat) := (hGσ2 89 (v1.toNat) (show ¬ ((24 ≤ 89 ∧ 89 < 29)) from by omega))
  have y14 : σ2 89 ((82 + r10).toNat) = τ 89 ((82 + r10).toNat) := (hGσ2 89 ((82 + r10).toNat) (show ¬ ((24 ≤ 89 ∧ 89 < 29)) from by omega))
  refine j_st (st' := [vI r10]) rfl ?_
  have y15 : σ8 10 10 = τ 10 10 := ((hGσ8 10 10 (show ¬ ((10 = 89 ∧ 10 < 93)) from by omega))).trans (hGσ2 10 10 (show ¬ ((24 ≤ 10 ∧ 10 < 29)) from by omega))
  have bσ8 : BY σ8 := BY_kept bσ2 (fun j => hGσ8 11 j (show ¬ ((11 = 89 ∧ j < 93)) from by omega)) (fun j => hGσ8 98 j (show ¬ ((98 = 89 ∧ j < 93)) from by omega)) (by omega)
  have mσ8 : mI σ8 := q9_0
  have sσ8 : SR σ8 := SR_kept sσ2 (fun c j h => hGσ8 c j (show ¬ ((c = 89 ∧ j < 93)) from by omega)) (fun j => hGσ8 104 j (show ¬ ((104 = 89 ∧ j < 93)) from by omega)) (fun j => hGσ8 105 j (show ¬ ((105 = 89 ∧ j < 93)) from by omega))
  have tσ8 : TT σ8 := TT_kept tσ2 (fun c j h => hGσ8 c j (show ¬ ((c = 89 ∧ j < 93)) from by omega)) (fun j h => hGσ8 89 j (show ¬ ((89 = 89 ∧ j < 93)) from by omega))
  have ht9 : (1 : Int) ≤ τ 91 0 ∧ τ 91 0 ≤ 40 := hIτ 91 0
  have st9 := ST_take stτ ht9 q3_0 q9_1 (fun c j h => hGσ2 c j (show ¬ ((24 ≤ c ∧ c < 29)) from by omega)) (fun c j h => hGσ8 c j (show ¬ ((c = 89 ∧ j < 93)) from by omega))
  have rr9 := st9.2
  clear q3_0 q9_1
  refine j_pop (pc := 410) dL_law_410 rfl ?_
  refine j_goto (pc := 411) (tgt := 1352) dL_law_411 rfl ?_
  have y16 : σ8 10 10 = τ 10 10 := ((hGσ8 10 10 (show ¬ ((10 = 89 ∧ 10 < 93)) from by omega))).trans (hGσ2 10 10 (show ¬ ((24 ≤ 10 ∧ 10 < 29)) from by omega))
  have y17 : σ8 88 12 = τ 88 12 := ((hGσ8 88 12 (show ¬ ((88 = 89 ∧ 12 < 93)) from by omega))).trans (hGσ2 88 12 (show ¬ ((24 ≤ 88 ∧ 88 < 29)) from by omega))
  have f18 : (0 : Int) ≤ τ 88 12 ∧ τ 88 12 ≤ 400 := hIτ 88 12
  have y19 : σ8 0 13 = τ 0 13 := ((hGσ8 0 13 (show ¬ ((0 = 89 ∧ 13 < 93)) from by omega))).trans (hGσ2 0 13 (show ¬ ((24 ≤ 0 ∧ 0 < 29)) from by omega))
  have f20 : (-2147483648 : Int) ≤ τ 0 13 ∧ τ 0 13 ≤ 2147483647 := hIτ 0 13
  have y21 : σ8 88 17 = τ 88 17 := ((hGσ8 88 17 (show ¬ ((88 = 89 ∧ 17 < 93)) from by omega))).trans (hGσ2 88 17 (show ¬ ((24 ≤ 88 ∧ 88 < 29)) from by omega))
  have f22 : (0 : Int) ≤ τ 88 17 ∧ τ 88 17 ≤ 5 := hIτ 88 17
  have y23 : σ8 31 6 = τ 31 6 := ((hGσ8 31 6 (show ¬ ((31 = 89 ∧ 6 < 93)) from by omega))).trans (hGσ2 31 6 (show ¬ ((24 ≤ 31 ∧ 31 < 29)) from by omega))
  have f24 : (0 : Int) ≤ τ 31 6 ∧ τ 31 6 ≤ 1 := hIτ 31 6
  have y25 : σ8 39 6 = τ 39 6 := ((hGσ8 39 6 (show ¬ ((39 = 89 ∧ 6 < 93)) from by omega))).trans (hGσ2 39 6 (show ¬ ((24 ≤ 39 ∧ 39 < 29)) from by omega))
  have f26 : (0 : Int) ≤ τ 39 6 ∧ τ 39 6 ≤ 1 := hIτ 39 6
  have y27 : σ8 90 0 = τ 90 0 := ((hGσ8 90 0 (show ¬ ((90 = 89 ∧ 0 < 93)) from by omega))).trans (hGσ2 90 0 (show ¬ ((24 ≤ 90 ∧ 90 < 29)) from by omega))
  have f28 : (0 : Int) ≤ τ 90 0 ∧ τ 90 0 ≤ 1 := hIτ 90 0
  have y29 : σ8 90 1 = τ 90 1 := ((hGσ8 90 1 (show ¬ ((90 = 89 ∧ 1 < 93)) from by omega))).trans (hGσ2 90 1 (show ¬ ((24 ≤ 90 ∧ 90 < 29)) from by omega))
  have f30 : (0 : Int) ≤ τ 90 1 ∧ τ 90 1 ≤ 1 := hIτ 90 1
  exact K σ8 hIσ8 ⟨mσ8, by omega, sσ8, bσ8, by omega, by omega, by omega, tσ8, st9.1⟩
set_option maxHeartbeats 4000000 in
set_option maxRecDepth 100000 in
theorem w_case_8 {G : tw_G} (hX : tw_isX G) (hM : tw_isM G) {E : List Frame → Array Value → State → State → Prop} (hN : (gN G : Int) ≤ 2560) (i : Int) (hi : 0 ≤ i ∧ i + 5 ≤ (gN G : Int)) (τ : tw_M) (hIτ : tw_I τ) (hL : tw_LI τ) (K : ∀ τ' : tw_M, tw_I τ' → tw_LI τ' → tw_J G tw_ML E 1352 [(0, vR 300), (1, vR 0), (2, vR 88), (3, vI i)] [] τ') : tw_J G tw_ML E 414 [(0, vR 300), (1, vR 0), (2, vR 88), (3, vI i)] [] τ := by
  obtain ⟨mτ, zτ, sτ, bτ, fτ, kτ0, kτ1, tτ, stτ⟩ := hL
  have g9 : (0 : Int) ≤ τ 10 10 ∧ τ 10 10 ≤ 400 := hIτ 10 10
  obtain ⟨v1, ev1⟩ : ∃ v : Int, v = (gxs G (i + 1).toNat).toInt := ⟨_, rfl⟩
  have hv1 : (-2147483648 : Int) ≤ v1 ∧ v1 ≤ 2147483647 := by rw [ev1]; exact i32_in _
  obtain ⟨v2, ev2⟩ : ∃ v : Int, v = (gxs G (i + 2).toNat).toInt := ⟨_, rfl⟩
  have hv2 : (-2147483648 : Int) ≤ v2 ∧ v2 ≤ 2147483647 := by rw [ev2]; exact i32_in _
  obtain ⟨v3, ev3⟩ : ∃ v : Int, v = (gxs G (i + 3).toNat).toInt := ⟨_, rfl⟩
  have hv3 : (-2147483648 : Int) ≤ v3 ∧ v3 ≤ 2147483647 := by rw [ev3]; exact i32_in _
  obtain ⟨v4, ev4⟩ : ∃ v : Int, v = (gxs G (i + 4).toNat).toInt := ⟨_, rfl⟩
  have hv4 : (-2147483648 : Int) ≤ v4 ∧ v4 ≤ 2147483647 := by rw [ev4]; exact i32_in _
  refine j_aload_n (pc := 414) dL_law_414 rfl rfl ?_
  refine j_aload_n (pc := 415) dL_law_415 rfl rfl ?_
  refine j_iload_n (pc := 416) dL_law_416 rfl rfl ?_
  refine j_iconst (pc := 417) dL_law_417 ?_
  refine j_iadd (pc := 418) dL_law_418 ?_
  refine j_scrAt (pc := 419) dL_law_419 (by omega) (by omega) (by omega) ?_
  refine j_topV (show _ = v1 from ev1.symm) ?_
  refine j_aload_n (pc := 420) dL_law_420 rfl rfl ?_
  refine j_iload_n (pc := 421) dL_law_421 rfl rfl ?_
  refine j_iconst (pc := 422) dL_law_422 ?_
  refine j_iadd (pc := 423) dL_law_423 ?_
  refine j_scrAt (pc := 424) dL_law_424 (by omega) (by omega) (by omega) ?_
  refine j_topV (show _ = v2 from ev2.symm) ?_
  refine j_ifR_eq (pc := 425) (tgt := 432) ⟨by omega, by omega⟩ dL_law_425 rfl (fun h1 => ?_) (fun h1 => ?_)
  · refine j_iconst (pc := 432) dL_law_432 ?_
    refine j_callV (pc := 433) (As := [vI v1, vI 0]) (st := []) (c_X11_sling hX v1 ⟨by omega, by omega⟩ 0 ⟨by omega, by omega⟩ τ hIτ) mv_L_51 rfl rfl rfl (a_0 hX) dL_law_433 ⟨Nat.le_of_ble_eq_true rfl, Nat.le_of_ble_eq_true rfl⟩ ⟨Nat.le_of_ble_eq_true rfl, Nat.le_of_ble_eq_true rfl⟩ rfl (Nat.le_of_ble_eq_true rfl) rfl (fun z2 σ3 hz2 => ?_)
    obtain ⟨r5, rfl, hr5, hIσ3, hGσ3, q4_0⟩ := hz2
    replace q4_0 : ∀ gg qq : Nat → Int, RG 24 gg qq τ → (r5 = -1 ∧ ¬ (1 ≤ v1 ∧ v1 ≤ τ 2 0) ∧ ∀ c j, σ3 c j = τ c j) ∨ (r5 = -4 ∧ (1 ≤ v1 ∧ v1 ≤ τ 2 0) ∧ gg v1.toNat = 0 ∧ ∀ c j, σ3 c j = τ c j) ∨ ((1 ≤ v1 ∧ v1 ≤ τ 2 0) ∧ 0 < gg v1.toNat ∧ r5 = qq v1.toNat ∧ RG 24 gg (pg qq v1.toNat (0 : Int)) σ3) := q4_0
    refine j_st (st' := [vI r5]) rfl ?_
    have y6 : σ3 10 10 = τ 10 10 := (hGσ3 10 10 (show ¬ (10 = 27) from by omega))
    have f7 : (0 : Int) ≤ τ 10 10 ∧ τ 10 10 ≤ 400 := hIτ 10 10
    have bσ3 : BY σ3 := BY_kept bτ (fun j => hGσ3 11 j (show ¬ (11 = 27) from by omega)) (fun j => hGσ3 98 j (show ¬ (98 = 27) from by omega)) (by omega)
    have mσ3 : mI σ3 := mI_kept mτ (fun j hj => hGσ3 89 j (show ¬ (89 = 27) from by omega)) (fun j => hGσ3 90 j (show ¬ (90 = 27) from by omega)) (hGσ3 91 0 (show ¬ (91 = 27) from by omega)) hIτ
    have sσ3 : SR σ3 := SR_kept sτ (fun c j h => hGσ3 c j (show ¬ (c = 27) from by omega)) (fun j => hGσ3 104 j (show ¬ (104 = 27) from by omega)) (fun j => hGσ3 105 j (show ¬ (105 = 27) from by omega))
    have tσ3 : TT σ3 := TT_kept tτ (fun c j h => hGσ3 c j (show ¬ (c = 27) from by omega)) (fun j h => hGσ3 89 j (show ¬ (89 = 27) from by omega))
    refine j_pop (pc := 436) dL_law_436 rfl ?_
    refine j_aload_n (pc := 437) dL_law_437 rfl rfl ?_
    refine j_aload_n (pc := 438) dL_law_438 rfl rfl ?_
    refine j_iload_n (pc := 439) dL_law_439 rfl rfl ?_
    refine j_iconst (pc := 440) dL_law_440 ?_
    refine j_iadd (pc := 441) dL_law_441 ?_
    refine j_scrAt (pc := 442) dL_law_442 (by omega) (by omega) (by omega) ?_
    refine j_topV (show _ = v1 from ev1.symm) ?_
    refine j_aload_n (pc := 443) dL_law_443 rfl rfl ?_
    refine j_iload_n (pc := 444) dL_law_444 rfl rfl ?_
    refine j_iconst (pc := 445) dL_law_445 ?_
    refine j_iadd (pc := 446) dL_law_446 ?_
    refine j_scrAt (pc := 447) dL_law_447 (by omega) (by omega) (by omega) ?_
    refine j_topV (show _ = v2 from ev2.symm) ?_
    refine j_ifR_eq (pc := 448) (tgt := 455) ⟨by omega, by omega⟩ dL_law_448 rfl (fun h8 => ?_) (fun h8 => by exfalso; omega)
    refine j_iconst (pc := 455) dL_law_455 ?_
    refine j_callV (pc := 456) (As := [vI v1, vI 0]) (st := []) (c_X12_sling hM v1 ⟨by omega, by omega⟩ 0 ⟨by omega, by omega⟩ σ3 hIσ3 mσ3) mv_L_55 rfl rfl rfl (a_88 hM) dL_law_456 ⟨Nat.le_of_ble_eq_true rfl, Nat.le_of_ble_eq_true rfl⟩ ⟨Nat.le_of_ble_eq_true rfl, Nat.le_of_ble_eq_true rfl⟩ rfl (Nat.le_of_ble_eq_true rfl) rfl (fun z9 σ10 hz9 => ?_)
    obtain ⟨r12, rfl, hr12, hIσ10, hGσ10, q11_0, q11_1⟩ := hz9
    replace q11_0 : mI σ10 := q11_0
    replace q11_1 : (r12 = -1 ∧ ¬ (1 ≤ v1 ∧ v1 ≤ σ3 91 0) ∧ ∀ c j, σ10 c j = σ3 c j) ∨ (r12 = -4 ∧ (1 ≤ v1 ∧ v1 ≤ σ3 91 0) ∧ σ3 89 v1.toNat = 0 ∧ ∀ c j, σ10 c j = σ3 c j) ∨ ((1 ≤ v1 ∧ v1 ≤ σ3 91 0) ∧ ¬ σ3 89 v1.toNat = 0 ∧ r12 = σ3 89 (41 + v1).toNat ∧ σ10 89 (41 + v1).toNat = (0 : Int) ∧ ∀ j : Nat, ¬ j = (41 + v1).toNat → σ10 89 j = σ3 89 j) := q11_1
    have y13 : σ3 91 0 = τ 91 0 := (hGσ3 91 0 (show ¬ (91 = 27) from by omega))
    have f14 : (1 : Int) ≤ τ 91 0 ∧ τ 91 0 ≤ 40 := hIτ 91 0
    have y15 : σ3 89 (v1.toNat) = τ 89 (v1.toNat) := (hGσ3 89 (v1.toNat) (show ¬ (89 = 27) from by omega))
    have y16 : σ3 89 ((41 + v1).toNat) = τ 89 ((41 + v1).toNat) := (hGσ3 89 ((41 + v1).toNat) (show ¬ (89 = 27) from by omega))
    refine j_st (st' := [vI r12]) rfl ?_
    have y17 : σ10 10 10 = τ 10 10 := ((hGσ10 10 10 (show ¬ ((10 = 89 ∧ 10 < 93)) from by omega))).trans (hGσ3 10 10 (show ¬ (10 = 27) from by omega))
    have bσ10 : BY σ10 := BY_kept bσ3 (fun j => hGσ10 11 j (show ¬ ((11 = 89 ∧ j < 93)) from by omega)) (fun j => hGσ10 98 j (show ¬ ((98 = 89 ∧ j < 93)) from by omega)) (by omega)
    have mσ10 : mI σ10 := q11_0
    have sσ10 : SR σ10 := SR_kept sσ3 (fun c j h => hGσ10 c j (show ¬ ((c = 89 ∧ j < 93)) from by omega)) (fun j => hGσ10 104 j (show ¬ ((104 = 89 ∧ j < 93)) from by omega)) (fun j => hGσ10 105 j (show ¬ ((105 = 89 ∧ j < 93)) from by omega))
    have tσ10 : TT σ10 := TT_kept tσ3 (fun c j h => hGσ10 c j (show ¬ ((c = 89 ∧ j < 93)) from by omega)) (fun j h => hGσ10 89 j (show ¬ ((89 = 89 ∧ j < 93)) from by omega))
    have ht9 : (1 : Int) ≤ τ 91 0 ∧ τ 91 0 ≤ 40 := hIτ 91 0
    have st9 := ST_sling stτ ht9 q4_0 q11_1 (fun c j h => hGσ3 c j (show ¬ (c = 27) from by omega)) (fun c j h => hGσ10 c j (show ¬ ((c = 89 ∧ j < 93)) from by omega))
    have rr9 := st9.2
    clear q4_0 q11_1
    refine j_pop (pc := 459) dL_law_459 rfl ?_
    refine j_goto (pc := 460) (tgt := 1352) dL_law_460 rfl ?_
    have y18 : σ10 10 10 = τ 10 10 := ((hGσ10 10 10 (show ¬ ((10 = 89 ∧ 10 < 93)) from by omega))).trans (hGσ3 10 10 (show ¬ (10 = 27) from by omega))
    have y19 : σ10 88 12 = τ 88 12 := ((hGσ10 88 12 (show ¬ ((88 = 89 ∧ 12 < 93)) from by omega))).trans (hGσ3 88 12 (show ¬ (88 = 27) from by omega))
    have f20 : (0 : Int) ≤ τ 88 12 ∧ τ 88 12 ≤ 400 := hIτ 88 12
    have y21 : σ10 0 13 = τ 0 13 := ((hGσ10 0 13 (show ¬ ((0 = 89 ∧ 13 < 93)) from by omega))).trans (hGσ3 0 13 (show ¬ (0 = 27) from by omega))
    have f22 : (-2147483648 : Int) ≤ τ 0 13 ∧ τ 0 13 ≤ 2147483647 := hIτ 0 13
    have y23 : σ10 88 17 = τ 88 17 := ((hGσ10 88 17 (show ¬ ((88 = 89 ∧ 17 < 93)) from by omega))).trans (hGσ3 88 17 (show ¬ (88 = 27) from by omega))
    have f24 : (0 : Int) ≤ τ 88 17 ∧ τ 88 17 ≤ 5 := hIτ 88 17
    have y25 : σ10 31 6 = τ 31 6 := ((hGσ10 31 6 (show ¬ ((31 = 89 ∧ 6 < 93)) from by omega))).trans (hGσ3 31 6 (show ¬ (31 = 27) from by omega))
    have f26 : (0 : Int) ≤ τ 31 6 ∧ τ 31 6 ≤ 1 := hIτ 31 6
    have y27 : σ10 39 6 = τ 39 6 := ((hGσ10 39 6 (show ¬ ((39 = 89 ∧ 6 < 93)) from by omega))).trans (hGσ3 39 6 (show ¬ (39 = 27) from by omega))
    have f28 : (0 : Int) ≤ τ 39 6 ∧ τ 39 6 ≤ 1 := hIτ 39 6
    have y29 : σ10 90 0 = τ 90 0 := ((hGσ10 90 0 (show ¬ ((90 = 89 ∧ 0 < 93)) from by omega))).trans (hGσ3 90 0 (show ¬ (90 = 27) from by omega))
    have f30 : (0 : Int) ≤ τ 90 0 ∧ τ 90 0 ≤ 1 := hIτ 90 0
    have y31 : σ10 90 1 = τ 90 1 := ((hGσ10 90 1 (show ¬ ((90 = 89 ∧ 1 < 93)) from by omega))).trans (hGσ3 90 1 (show ¬ (90 = 27) from by omega))
    have f32 : (0 : Int) ≤ τ 90 1 ∧ τ 90 1 ≤ 1 := hIτ 90 1
    exact K σ10 hIσ10 ⟨mσ10, by omega, sσ10, bσ10, by omega, by omega, by omega, tσ10, st9.1⟩
  · refine j_iconst (pc := 428) dL_law_428 ?_
    refine j_goto (pc := 429) (tgt := 433) dL_law_429 rfl ?_
    refine j_callV (pc := 433) (As := [vI v1, vI 1]) (st := []) (c_X11_sling hX v1 ⟨by omega, by omega⟩ 1 ⟨by omega, by omega⟩ τ hIτ) mv_L_51 rfl rfl rfl (a_0 hX) dL_law_433 ⟨Nat.le_of_ble_eq_true rfl, Nat.le_of_ble_eq_true rfl⟩ ⟨Nat.le_of_ble_eq_true rfl, Nat.le_of_ble_eq_true rfl⟩ rfl (Nat.le_of_ble_eq_true rfl) rfl (fun z33 σ34 hz33 => ?_)
    obtain ⟨r36, rfl, hr36, hIσ34, hGσ34, q35_0⟩ := hz33
    replace q35_0 : ∀ gg qq : Nat → Int, RG 24 gg qq τ → (r36 = -1 ∧ ¬ (1 ≤ v1 ∧ v1 ≤ τ 2 0) ∧ ∀ c j, σ34 c j = τ c j) ∨ (r36 = -4 ∧ (1 ≤ v1 ∧ v1 ≤ τ 2 0) ∧ gg v1.toNat = 0 ∧ ∀ c j, σ34 c j = τ c j) ∨ ((1 ≤ v1 ∧ v1 ≤ τ 2 0) ∧ 0 < gg v1.toNat ∧ r36 = qq v1.toNat ∧ RG 24 gg (pg qq v1.toNat (1 : Int)) σ34) := q35_0
    refine j_st (st' := [vI r36]) rfl ?_
    have y37 : σ34 10 10 = τ 10 10 := (hGσ34 10 10 (show ¬ (10 = 27) from by omega))
    have f38 : (0 : Int) ≤ τ 10 10 ∧ τ 10 10 ≤ 400 := hIτ 10 10
    have bσ34 : BY σ34 := BY_kept bτ (fun j => hGσ34 11 j (show ¬ (11 = 27) from by omega)) (fun j => hGσ34 98 j (show ¬ (98 = 27) from by omega)) (by omega)
    have mσ34 : mI σ34 := mI_kept mτ (fun j hj => hGσ34 89 j (show ¬ (89 = 27) from by omega)) (fun j => hGσ34 90 j (show ¬ (90 = 27) from by omega)) (hGσ34 91 0 (show ¬ (91 = 27) from by omega)) hIτ
    have sσ34 : SR σ34 := SR_kept sτ (fun c j h => hGσ34 c j (show ¬ (c = 27) from by omega)) (fun j => hGσ34 104 j (show ¬ (104 = 27) from by omega)) (fun j => hGσ34 105 j (show ¬ (105 = 27) from by omega))
    have tσ34 : TT σ34 := TT_kept tτ (fun c j h => hGσ34 c j (show ¬ (c = 27) from by omega)) (fun j h => hGσ34 89 j (show ¬ (89 = 27) from by omega))
    refine j_pop (pc := 436) dL_law_436 rfl ?_
    refine j_aload_n (pc := 437) dL_law_437 rfl rfl ?_
    refine j_aload_n (pc := 438) dL_law_438 rfl rfl ?_
    refine j_iload_n (pc := 439) dL_law_439 rfl rfl ?_
    refine j_iconst (pc := 440) dL_law_440 ?_
    refine j_iadd (pc := 441) dL_law_441 ?_
    refine j_scrAt (pc := 442) dL_law_442 (by omega) (by omega) (by omega) ?_
    refine j_topV (show _ = v1 from ev1.symm) ?_
    refine j_aload_n (pc := 443) dL_law_443 rfl rfl ?_
    refine j_iload_n (pc := 444) dL_law_444 rfl rfl ?_
    refine j_iconst (pc := 445) dL_law_445 ?_
    refine j_iadd (pc := 446) dL_law_446 ?_
    refine j_scrAt (pc := 447) dL_law_447 (by omega) (by omega) (by omega) ?_
    refine j_topV (show _ = v2 from ev2.symm) ?_
    refine j_ifR_eq (pc := 448) (tgt := 455) ⟨by omega, by omega⟩ dL_law_448 rfl (fun h39 => ?_) (fun h39 => ?_)
    · refine j_iconst (pc := 455) dL_law_455 ?_
      refine j_callV (pc := 456) (As := [vI v1, vI 0]) (st := []) (c_X12_sling hM v1 ⟨by omega, by omega⟩ 0 ⟨by omega, by omega⟩ σ34 hIσ34 mσ34) mv_L_55 rfl rfl rfl (a_88 hM) dL_law_456 ⟨Nat.le_of_ble_eq_true rfl, Nat.le_of_ble_eq_true rfl⟩ ⟨Nat.le_of_ble_eq_true rfl, Nat.le_of_ble_eq_true rfl⟩ rfl (Nat.le_of_ble_eq_true rfl) rfl (fun z40 σ41 hz40 => ?_)
      obtain ⟨r43, rfl, hr43, hIσ41, hGσ41, q42_0, q42_1⟩ := hz40
      replace q42_0 : mI σ41 := q42_0
      replace q42_1 : (r43 = -1 ∧ ¬ (1 ≤ v1 ∧ v1 ≤ σ34 91 0) ∧ ∀ c j, σ41 c j = σ34 c j) ∨ (r43 = -4 ∧ (1 ≤ v1 ∧ v1 ≤ σ34 91 0) ∧ σ34 89 v1.toNat = 0 ∧ ∀ c j, σ41 c j = σ34 c j) ∨ ((1 ≤ v1 ∧ v1 ≤ σ34 91 0) ∧ ¬ σ34 89 v1.toNat = 0 ∧ r43 = σ34 89 (41 + v1).toNat ∧ σ41 89 (41 + v1).toNat = (0 : Int) ∧ ∀ j : Nat, ¬ j = (41 + v1).toNat → σ41 89 j = σ34 89 j) := q42_1
      have y44 : σ34 91 0 = τ 91 0 := (hGσ34 91 0 (show ¬ (91 = 27) from by omega))
      have f45 : (1 : Int) ≤ τ 91 0 ∧ τ 91 0 ≤ 40 := hIτ 91 0
      have y46 : σ34 89 (v1.toNat) = τ 89 (v1.toNat) := (hGσ34 89 (v1.toNat) (show ¬ (89 = 27) from by omega))
      have y47 : σ34 89 ((41 + v1).toNat) = τ 89 ((41 + v1).toNat) := (hGσ34 89 ((41 + v1).toNat) (show ¬ (89 = 27) from by omega))
      refine j_st (st' := [vI r43]) rfl ?_
      have y48 : σ41 10 10 = τ 10 10 := ((hGσ41 10 10 (show ¬ ((10 = 89 ∧ 10 < 93)) from by omega))).trans (hGσ34 10 10 (show ¬ (10 = 27) from by omega))
      have bσ41 : BY σ41 := BY_kept bσ34 (fun j => hGσ41 11 j (show ¬ ((11 = 89 ∧ j < 93)) from by omega)) (fun j => hGσ41 98 j (show ¬ ((98 = 89 ∧ j < 93)) from by omega)) (by omega)
      have mσ41 : mI σ41 := q42_0
      have sσ41 : SR σ41 := SR_kept sσ34 (fun c j h => hGσ41 c j (show ¬ ((c = 89 ∧ j < 93)) from by omega)) (fun j => hGσ41 104 j (show ¬ ((104 = 89 ∧ j < 93)) from by omega)) (fun j => hGσ41 105 j (show ¬ ((105 = 89 ∧ j < 93)) from by omega))
      have tσ41 : TT σ41 := TT_kept tσ34 (fun c j h => hGσ41 c j (show ¬ ((c = 89 ∧ j < 93)) from by omega)) (fun j h => hGσ41 89 j (show ¬ ((89 = 89 ∧ j < 93)) from by omega))
      have ht9 : (1 : Int) ≤ τ 91 0 ∧ τ 91 0 ≤ 40 := hIτ 91 0
      have st9 := ST_sling stτ ht9 q35_0 q42_1 (fun c j h => hGσ34 c j (show ¬ (c = 27) from by omega)) (fun c j h => hGσ41 c j (show ¬ ((c = 89 ∧ j < 93)) from by omega))
      have rr9 := st9.2
      clear q35_0 q42_1
      refine j_pop (pc := 459) dL_law_459 rfl ?_
      refine j_goto (pc := 460) (tgt := 1352) dL_law_460 rfl ?_
      have y49 : σ41 10 10 = τ 10 10 := ((hGσ41 10 10 (show ¬ ((10 = 89 ∧ 10 < 93)) from by omega))).trans (hGσ34 10 10 (show ¬ (10 = 27) from by omega))
      have y50 : σ41 88 12 = τ 88 12 := ((hGσ41 88 12 (show ¬ ((88 = 89 ∧ 12 < 93)) from by omega))).trans (hGσ34 88 12 (show ¬ (88 = 27) from by omega))
      have f51 : (0 : Int) ≤ τ 88 12 ∧ τ 88 12 ≤ 400 := hIτ 88 12
      have y52 : σ41 0 13 = τ 0 13 := ((hGσ41 0 13 (show ¬ ((0 = 89 ∧ 13 < 93)) from by omega))).trans (hGσ34 0 13 (show ¬ (0 = 27) from by omega))
      have f53 : (-2147483648 : Int) ≤ τ 0 13 ∧ τ 0 13 ≤ 2147483647 := hIτ 0 13
      have y54 : σ41 88 17 = τ 88 17 := ((hGσ41 88 17 (show ¬ ((88 = 89 ∧ 17 < 93)) from by omega))).trans (hGσ34 88 17 (show ¬ (88 = 27) from by omega))
      have f55 : (0 : Int) ≤ τ 88 17 ∧ τ 88 17 ≤ 5 := hIτ 88 17
      have y56 : σ41 31 6 = τ 31 6 := ((hGσ41 31 6 (show ¬ ((31 = 89 ∧ 6 < 93)) from by omega))).trans (hGσ34 31 6 (show ¬ (31 = 27) from by omega))
      have f57 : (0 : Int) ≤ τ 31 6 ∧ τ 31 6 ≤ 1 := hIτ 31 6
      have y58 : σ41 39 6 = τ 39 6 := ((hGσ41 39 6 (show ¬ ((39 = 89 ∧ 6 < 93)) from by omega))).trans (hGσ34 39 6 (show ¬ (39 = 27) from by omega))
      have f59 : (0 : Int) ≤ τ 39 6 ∧ τ 39 6 ≤ 1 := hIτ 39 6
      have y60 : σ41 90 0 = τ 90 0 := ((hGσ41 90 0 (show ¬ ((90 = 89 ∧ 0 < 93)) from by omega))).trans (hGσ34 90 0 (show ¬ (90 = 27) from by omega))
      have f61 : (0 : Int) ≤ τ 90 0 ∧ τ 90 0 ≤ 1 := hIτ 90 0
      have y62 : σ41 90 1 = τ 90 1 := ((hGσ41 90 1 (show ¬ ((90 = 89 ∧ 1 < 93)) from by omega))).trans (hGσ34 90 1 (show ¬ (90 = 27) from by omega))
      have f63 : (0 : Int) ≤ τ 90 1 ∧ τ 90 1 ≤ 1 := hIτ 90 1
      exact K σ41 hIσ41 ⟨mσ41, by omega, sσ41, bσ41, by omega, by omega, by omega, tσ41, st9.1⟩
    · refine j_iconst (pc := 451) dL_law_451 ?_
      refine j_goto (pc := 452) (tgt := 456) dL_law_452 rfl ?_
      refine j_callV (pc := 456) (As := [vI v1, vI 1]) (st := []) (c_X12_sling hM v1 ⟨by omega, by omega⟩ 1 ⟨by omega, by omega⟩ σ34 hIσ34 mσ34) mv_L_55 rfl rfl rfl (a_88 hM) dL_law_456 ⟨Nat.le_of_ble_eq_true rfl, Nat.le_of_ble_eq_true rfl⟩ ⟨Nat.le_of_ble_eq_true rfl, Nat.le_of_ble_eq_true rfl⟩ rfl (Nat.le_of_ble_eq_true rfl) rfl (fun z64 σ65 hz64 => ?_)
      obtain ⟨r67, rfl, hr67, hIσ65, hGσ65, q66_0, q66_1⟩ := hz64
      replace q66_0 : mI σ65 := q66_0
      replace q66_1 : (r67 = -1 ∧ ¬ (1 ≤ v1 ∧ v1 ≤ σ34 91 0) ∧ ∀ c j, σ65 c j = σ34 c j) ∨ (r67 = -4 ∧ (1 ≤ v1 ∧ v1 ≤ σ34 91 0) ∧ σ34 89 v1.toNat = 0 ∧ ∀ c j, σ65 c j = σ34 c j) ∨ ((1 ≤ v1 ∧ v1 ≤ σ34 91 0) ∧ ¬ σ34 89 v1.toNat = 0 ∧ r67 = σ34 89 (41 + v1).toNat ∧ σ65 89 (41 + v1).toNat = (1 : Int) ∧ ∀ j : Nat, ¬ j = (41 + v1).toNat → σ65 89 j = σ34 89 j) := q66_1
      have y68 : σ34 91 0 = τ 91 0 := (hGσ34 91 0 (show ¬ (91 = 27) from by omega))
      have f69 : (1 : Int) ≤ τ 91 0 ∧ τ 91 0 ≤ 40 := hIτ 91 0
      have y70 : σ34 89 (v1.toNat) = τ 89 (v1.toNat) := (hGσ34 89 (v1.toNat) (show ¬ (89 = 27) from by omega))
      have y71 : σ34 89 ((41 + v1).toNat) = τ 89 ((41 + v1).toNat) := (hGσ34 89 ((41 + v1).toNat) (show ¬ (89 = 27) from by omega))
      refine j_st (st' := [vI r67]) rfl ?_
      have y72 : σ65 10 10 = τ 10 10 := ((hGσ65 10 10 (show ¬ ((10 = 89 ∧ 10 < 93)) from by omega))).trans (hGσ34 10 10 (show ¬ (10 = 27) from by omega))
      have bσ65 : BY σ65 := BY_kept bσ34 (fun j => hGσ65 11 j (show ¬ ((11 = 89 ∧ j < 93)) from by omega)) (fun j => hGσ65 98 j (show ¬ ((98 = 89 ∧ j < 93)) from by omega)) (by omega)
      have mσ65 : mI σ65 := q66_0
      have sσ65 : SR σ65 := SR_kept sσ34 (fun c j h => hGσ65 c j (show ¬ ((c = 89 ∧ j < 93)) from by omega)) (fun j => hGσ65 104 j (show ¬ ((104 = 89 ∧ j < 93)) from by omega)) (fun j => hGσ65 105 j (show ¬ ((105 = 89 ∧ j < 93)) from by omega))
      have tσ65 : TT σ65 := TT_kept tσ34 (fun c j h => hGσ65 c j (show ¬ ((c = 89 ∧ j < 93)) from by omega)) (fun j h => hGσ65 89 j (show ¬ ((89 = 89 ∧ j < 93)) from by omega))
      have ht9 : (1 : Int) ≤ τ 91 0 ∧ τ 91 0 ≤ 40 := hIτ 91 0
      have st9 := ST_sling stτ ht9 q35_0 q66_1 (fun c j h => hGσ34 c j (show ¬ (c = 27) from by omega)) (fun c j h => hGσ65 c j (show ¬ ((c = 89 ∧ j < 93)) from by omega))
      have rr9 := st9.2
      clear q35_0 q66_1
      refine j_pop (pc := 459) dL_law_459 rfl ?_
      refine j_goto (pc := 460) (tgt := 1352) dL_law_460 rfl ?_
      have y73 : σ65 10 10 = τ 10 10 := ((hGσ65 10 10 (show ¬ ((10 = 89 ∧ 10 < 93)) from by omega))).trans (hGσ34 10 10 (show ¬ (10 = 27) from by omega))
      have y74 : σ65 88 12 = τ 88 12 := ((hGσ65 88 12 (show ¬ ((88 = 89 ∧ 12 < 93)) from by omega))).trans (hGσ34 88 12 (show ¬ (88 = 27) from by omega))
      have f75 : (0 : Int) ≤ τ 88 12 ∧ τ 88 12 ≤ 400 := hIτ 88 12
      have y76 : σ65 0 13 = τ 0 13 := ((hGσ65 0 13 (show ¬ ((0 = 89 ∧ 13 < 93)) from by omega))).trans (hGσ34 0 13 (show ¬ (0 = 27) from by omega))
      have f77 : (-2147483648 : Int) ≤ τ 0 13 ∧ τ 0 13 ≤ 2147483647 := hIτ 0 13
      have y78 : σ65 88 17 = τ 88 17 := ((hGσ65 88 17 (show ¬ ((88 = 89 ∧ 17 < 93)) from by omega))).trans (hGσ34 88 17 (show ¬ (88 = 27) from by omega))
      have f79 : (0 : Int) ≤ τ 88 17 ∧ τ 88 17 ≤ 5 := hIτ 88 17
      have y80 : σ65 31 6 = τ 31 6 := ((hGσ65 31 6 (show ¬ ((31 = 89 ∧ 6 < 93)) from by omega))).trans (hGσ34 31 6 (show ¬ (31 = 27) from by omega))
      have f81 : (0 : Int) ≤ τ 31 6 ∧ τ 31 6 ≤ 1 := hIτ 31 6
      have y82 : σ65 39 6 = τ 39 6 := ((hGσ65 39 6 (show ¬ ((39 = 89 ∧ 6 < 93)) from by omega))).trans (hGσ34 39 6 (show ¬ (39 = 27) from by omega))
      have f83 : (0 : Int) ≤ τ 39 6 ∧ τ 39 6 ≤ 1 := hIτ 39 6
      have y84 : σ65 90 0 = τ 90 0 := ((hGσ65 90 0 (show ¬ ((90 = 89 ∧ 0 < 93)) from by omega))).trans (hGσ34 90 0 (show ¬ (90 = 27) from by omega))
      have f85 : (0 : Int) ≤ τ 90 0 ∧ τ 90 0 ≤ 1 := hIτ 90 0
      have y86 : σ65 90 1 = τ 90 1 := ((hGσ65 90 1 (show ¬ ((90 = 89 ∧ 1 < 93)) from by omega))).trans (hGσ34 90 1 (show ¬ (90 = 27) from by omega))
      have f87 : (0 : Int) ≤ τ 90 1 ∧ τ 90 1 ≤ 1 := hIτ 90 1
      exact K σ65 hIσ65 ⟨mσ65, by omega, sσ65, bσ65, by omega, by omega, by omega, tσ65, st9.1⟩
set_option maxHeartbeats 4000000 in
set_option maxRecDepth 100000 in
theorem w_case_9 {G : tw_G} (hX : tw_isX G) (hM : tw_isM G) {E : List Frame → Array Value → State → State → Prop} (hN : (gN G : Int) ≤ 2560) (i : Int) (hi : 0 ≤ i ∧ i + 5 ≤ (gN G : Int)) (τ : tw_M) (hIτ : tw_I τ) (hL : tw_LI τ) (K : ∀ τ' : tw_M, tw_I τ' → tw_LI τ' → tw_J G tw_ML E 1352 [(0, vR 300), (1, vR 0), (2, vR 88), (3, vI i)] [] τ') : tw_J G tw_ML E 463 [(0, vR 300), (1, vR 0), (2, vR 88), (3, vI i)] [] τ := by
  obtain ⟨mτ, zτ, sτ, bτ, fτ, kτ0, kτ1, tτ, stτ⟩ := hL
  have g9 : (0 : Int) ≤ τ 10 10 ∧ τ 10 10 ≤ 400 := hIτ 10 10
  obtain ⟨v1, ev1⟩ : ∃ v : Int, v = (gxs G (i + 1).toNat).toInt := ⟨_, rfl⟩
  have hv1 : (-2147483648 : Int) ≤ v1 ∧ v1 ≤ 2147483647 := by rw [ev1]; exact i32_in _
  obtain ⟨v2, ev2⟩ : ∃ v : Int, v = (gxs G (i + 2).toNat).toInt := ⟨_, rfl⟩
  have hv2 : (-2147483648 : Int) ≤ v2 ∧ v2 ≤ 2147483647 := by rw [ev2]; exact i32_in _
  obtain ⟨v3, ev3⟩ : ∃ v : Int, v = (gxs G (i + 3).toNat).toInt := ⟨_, rfl⟩
  have hv3 : (-2147483648 : Int) ≤ v3 ∧ v3 ≤ 2147483647 := by rw [ev3]; exact i32_in _
  obtain ⟨v4, ev4⟩ : ∃ v : Int, v = (gxs G (i + 4).toNat).toInt := ⟨_, rfl⟩
  have hv4 : (-2147483648 : Int) ≤ v4 ∧ v4 ≤ 2147483647 := by rw [ev4]; exact i32_in _
  refine j_aload_n (pc := 463) dL_law_463 rfl rfl ?_
  refine j_aload_n (pc := 464) dL_law_464 rfl rfl ?_
  refine j_iload_n (pc := 465) dL_law_465 rfl rfl ?_
  refine j_iconst (pc := 466) dL_law_466 ?_
  refine j_iadd (pc := 467) dL_law_467 ?_
  refine j_scrAt (pc := 468) dL_law_468 (by omega) (by omega) (by omega) ?_
  refine j_topV (show _ = v1 from ev1.symm) ?_
  refine j_aload_n (pc := 469) dL_law_469 rfl rfl ?_
  refine j_iload_n (pc := 470) dL_law_470 rfl rfl ?_
  refine j_iconst (pc := 471) dL_law_471 ?_
  refine j_iadd (pc := 472) dL_law_472 ?_
  refine j_scrAt (pc := 473) dL_law_473 (by omega) (by omega) (by omega) ?_
  refine j_topV (show _ = v2 from ev2.symm) ?_
  refine j_callV (pc := 474) (As := [vI v1, vI v2]) (st := []) (c_X11_piece hX v1 ⟨by omega, by omega⟩ v2 ⟨by omega, by omega⟩ τ hIτ) mv_L_56 rfl rfl rfl (a_0 hX) dL_law_474 ⟨Nat.le_of_ble_eq_true rfl, Nat.le_of_ble_eq_true rfl⟩ ⟨Nat.le_of_ble_eq_true rfl, Nat.le_of_ble_eq_true rfl⟩ rfl (Nat.le_of_ble_eq_true rfl) rfl (fun z1 σ2 hz1 => ?_)
  obtain ⟨r4, rfl, hr4, rfl, -⟩ := hz1
  refine j_st (st' := [vI r4]) rfl ?_
  refine j_pop (pc := 477) dL_law_477 rfl ?_
  refine j_aload_n (pc := 478) dL_law_478 rfl rfl ?_
  refine j_aload_n (pc := 479) dL_law_479 rfl rfl ?_
  refine j_iload_n (pc := 480) dL_law_480 rfl rfl ?_
  refine j_iconst (pc := 481) dL_law_481 ?_
  refine j_iadd (pc := 482) dL_law_482 ?_
  refine j_scrAt (pc := 483) dL_law_483 (by omega) (by omega) (by omega) ?_
  refine j_topV (show _ = v1 from ev1.symm) ?_
  refine j_aload_n (pc := 484) dL_law_484 rfl rfl ?_
  refine j_iload_n (pc := 485) dL_law_485 rfl rfl ?_
  refine j_iconst (pc := 486) dL_law_486 ?_
  refine j_iadd (pc := 487) dL_law_487 ?_
  refine j_scrAt (pc := 488) dL_law_488 (by omega) (by omega) (by omega) ?_
  refine j_topV (show _ = v2 from ev2.symm) ?_
  refine j_callV (pc := 489) (As := [vI v1, vI v2]) (st := []) (c_X12_piece hM v1 ⟨by omega, by omega⟩ v2 ⟨by omega, by omega⟩ τ hIτ) mv_L_59 rfl rfl rfl (a_88 hM) dL_law_489 ⟨Nat.le_of_ble_eq_true rfl, Nat.le_of_ble_eq_true rfl⟩ ⟨Nat.le_of_ble_eq_true rfl, Nat.le_of_ble_eq_true rfl⟩ rfl (Nat.le_of_ble_eq_true rfl) rfl (fun z5 σ6 hz5 => ?_)
  obtain ⟨r8, rfl, hr8, rfl, -⟩ := hz5
  refine j_st (st' := [vI r8]) rfl ?_
  refine j_pop (pc := 492) dL_law_492 rfl ?_
  refine j_goto (pc := 493) (tgt := 1352) dL_law_493 rfl ?_
  exact K τ hIτ ⟨mτ, by omega, sτ, bτ, by omega, by omega, by omega, tτ, stτ⟩
set_option maxHeartbeats 4000000 in
set_option maxRecDepth 100000 in
theorem w_case_10 {G : tw_G} (hX : tw_isX G) (hM : tw_isM G) {E : List Frame → Array Value → State → State → Prop} (hN : (gN G : Int) ≤ 2560) (i : Int) (hi : 0 ≤ i ∧ i + 5 ≤ (gN G : Int)) (τ : tw_M) (hIτ : tw_I τ) (hL : tw_LI τ) (K : ∀ τ' : tw_M, tw_I τ' → tw_LI τ' → tw_J G tw_ML E 1352 [(0, vR 300), (1, vR 0), (2, vR 88), (3, vI i)] [] τ') : tw_J G tw_ML E 496 [(0, vR 300), (1, vR 0), (2, vR 88), (3, vI i)] [] τ := by
  obtain ⟨mτ, zτ, sτ, bτ, fτ, kτ0, kτ1, tτ, stτ⟩ := hL
  have g9 : (0 : Int) ≤ τ 10 10 ∧ τ 10 10 ≤ 400 := hIτ 10 10
  obtain ⟨v1, ev1⟩ : ∃ v : Int, v = (gxs G (i + 1).toNat).toInt := ⟨_, rfl⟩
  have hv1 : (-2147483648 : Int) ≤ v1 ∧ v1 ≤ 2147483647 := by rw [ev1]; exact i32_in _
  obtain ⟨v2, ev2⟩ : ∃ v : Int, v = (gxs G (i + 2).toNat).toInt := ⟨_, rfl⟩
  have hv2 : (-2147483648 : Int) ≤ v2 ∧ v2 ≤ 2147483647 := by rw [ev2]; exact i32_in _
  obtain ⟨v3, ev3⟩ : ∃ v : Int, v = (gxs G (i + 3).toNat).toInt := ⟨_, rfl⟩
  have hv3 : (-2147483648 : Int) ≤ v3 ∧ v3 ≤ 2147483647 := by rw [ev3]; exact i32_in _
  obtain ⟨v4, ev4⟩ : ∃ v : Int, v = (gxs G (i + 4).toNat).toInt := ⟨_, rfl⟩
  have hv4 : (-2147483648 : Int) ≤ v4 ∧ v4 ≤ 2147483647 := by rw [ev4]; exact i32_in _
  refine j_aload_n (pc := 496) dL_law_496 rfl rfl ?_
  refine j_callV (pc := 497) (As := []) (st := []) (c_X11_strip hX τ hIτ) mv_L_60 rfl rfl rfl (a_0 hX) dL_law_497 ⟨Nat.le_of_ble_eq_true rfl, Nat.le_of_ble_eq_true rfl⟩ ⟨Nat.le_of_ble_eq_true rfl, Nat.le_of_ble_eq_true rfl⟩ rfl (Nat.le_of_ble_eq_true rfl) rfl (fun z1 σ2 hz1 => ?_)
  obtain ⟨r4, rfl, hr4, hIσ2, hGσ2, q3_0⟩ := hz1
  replace q3_0 : ∀ gg qq rk : Nat → Int, RG 24 gg qq τ → CNR rk gg 28 τ → r4 = τ 24 0 ∧ σ2 24 0 = 0 ∧ ∀ x : Int, 1 ≤ x → x ≤ 10 → σ2 28 x.toNat = rk x.toNat := q3_0
  refine j_st (st' := [vI r4]) rfl ?_
  have y5 : σ2 10 10 = τ 10 10 := (hGσ2 10 10 (show ¬ ((24 ≤ 10 ∧ 10 < 29)) from by omega))
  have f6 : (0 : Int) ≤ τ 10 10 ∧ τ 10 10 ≤ 400 := hIτ 10 10
  have bσ2 : BY σ2 := BY_kept bτ (fun j => hGσ2 11 j (show ¬ ((24 ≤ 11 ∧ 11 < 29)) from by omega)) (fun j => hGσ2 98 j (show ¬ ((24 ≤ 98 ∧ 98 < 29)) from by omega)) (by omega)
  have mσ2 : mI σ2 := mI_kept mτ (fun j hj => hGσ2 89 j (show ¬ ((24 ≤ 89 ∧ 89 < 29)) from by omega)) (fun j => hGσ2 90 j (show ¬ ((24 ≤ 90 ∧ 90 < 29)) from by omega)) (hGσ2 91 0 (show ¬ ((24 ≤ 91 ∧ 91 < 29)) from by omega)) hIτ
  have sσ2 : SR σ2 := SR_kept sτ (fun c j h => hGσ2 c j (show ¬ ((24 ≤ c ∧ c < 29)) from by omega)) (fun j => hGσ2 104 j (show ¬ ((24 ≤ 104 ∧ 104 < 29)) from by omega)) (fun j => hGσ2 105 j (show ¬ ((24 ≤ 105 ∧ 105 < 29)) from by omega))
  have tσ2 : TT σ2 := TT_kept tτ (fun c j h => hGσ2 c j (show ¬ ((24 ≤ c ∧ c < 29)) from by omega)) (fun j h => hGσ2 89 j (show ¬ ((24 ≤ 89 ∧ 89 < 29)) from by omega))
  refine j_pop (pc := 500) dL_law_500 rfl ?_
  refine j_aload_n (pc := 501) dL_law_501 rfl rfl ?_
  refine j_callV (pc := 502) (As := []) (st := []) (c_X12_strip hM σ2 hIσ2 mσ2) mv_L_63 rfl rfl rfl (a_88 hM) dL_law_502 ⟨Nat.le_of_ble_eq_true rfl, Nat.le_of_ble_eq_true rfl⟩ ⟨Nat.le_of_ble_eq_true rfl, Nat.le_of_ble_eq_true rfl⟩ rfl (Nat.le_of_ble_eq_true rfl) rfl (fun z7 σ8 hz7 => ?_)
  obtain ⟨r10, rfl, hr10, hIσ8, hGσ8, q9_0, q9_1⟩ := hz7
  replace q9_0 : mI σ8 := q9_0
  replace q9_1 : ∀ rk : Nat → Int, MOB rk 0 σ2 → r10 = cnt (gM 0 σ2) (σ2 91 0).toNat ∧ MOB rk 0 σ8 ∧ ∀ f : Int, 1 ≤ f → f ≤ σ8 91 0 → σ8 89 f.toNat = 0 := q9_1
  have y11 : σ2 91 0 = τ 91 0 := (hGσ2 91 0 (show ¬ ((24 ≤ 91 ∧ 91 < 29)) from by omega))
  have f12 : (1 : Int) ≤ τ 91 0 ∧ τ 91 0 ≤ 40 := hIτ 91 0
  refine j_st (st' := [vI r10]) rfl ?_
  have y13 : σ8 10 10 = τ 10 10 := ((hGσ8 10 10 (show ¬ ((10 = 89 ∧ 10 < 93)) from by omega))).trans (hGσ2 10 10 (show ¬ ((24 ≤ 10 ∧ 10 < 29)) from by omega))
  have bσ8 : BY σ8 := BY_kept bσ2 (fun j => hGσ8 11 j (show ¬ ((11 = 89 ∧ j < 93)) from by omega)) (fun j => hGσ8 98 j (show ¬ ((98 = 89 ∧ j < 93)) from by omega)) (by omega)
  have mσ8 : mI σ8 := q9_0
  have sσ8 : SR σ8 := SR_kept sσ2 (fun c j h => hGσ8 c j (show ¬ ((c = 89 ∧ j < 93)) from by omega)) (fun j => hGσ8 104 j (show ¬ ((104 = 89 ∧ j < 93)) from by omega)) (fun j => hGσ8 105 j (show ¬ ((105 = 89 ∧ j < 93)) from by omega))
  have tσ8 : TT σ8 := TT_kept tσ2 (fun c j h => hGσ8 c j (show ¬ ((c = 89 ∧ j < 93)) from by omega)) (fun j h => hGσ8 89 j (show ¬ ((89 = 89 ∧ j < 93)) from by omega))
  have ht9 : (1 : Int) ≤ τ 91 0 ∧ τ 91 0 ≤ 40 := hIτ 91 0
  have st9 := ST_strip stτ ht9 q3_0 q9_1 (fun c j h => hGσ2 c j (show ¬ ((24 ≤ c ∧ c < 29)) from by omega)) (fun c j h => hGσ8 c j (show ¬ ((c = 89 ∧ j < 93)) from by omega))
  have rr9 := st9.2
  clear q3_0 q9_1
  refine j_pop (pc := 505) dL_law_505 rfl ?_
  refine j_goto (pc := 506) (tgt := 1352) dL_law_506 rfl ?_
  have y14 : σ8 10 10 = τ 10 10 := ((hGσ8 10 10 (show ¬ ((10 = 89 ∧ 10 < 93)) from by omega))).trans (hGσ2 10 10 (show ¬ ((24 ≤ 10 ∧ 10 < 29)) from by omega))
  have y15 : σ8 88 12 = τ 88 12 := ((hGσ8 88 12 (show ¬ ((88 = 89 ∧ 12 < 93)) from by omega))).trans (hGσ2 88 12 (show ¬ ((24 ≤ 88 ∧ 88 < 29)) from by omega))
  have f16 : (0 : Int) ≤ τ 88 12 ∧ τ 88 12 ≤ 400 := hIτ 88 12
  have y17 : σ8 0 13 = τ 0 13 := ((hGσ8 0 13 (show ¬ ((0 = 89 ∧ 13 < 93)) from by omega))).trans (hGσ2 0 13 (show ¬ ((24 ≤ 0 ∧ 0 < 29)) from by omega))
  have f18 : (-2147483648 : Int) ≤ τ 0 13 ∧ τ 0 13 ≤ 2147483647 := hIτ 0 13
  have y19 : σ8 88 17 = τ 88 17 := ((hGσ8 88 17 (show ¬ ((88 = 89 ∧ 17 < 93)) from by omega))).trans (hGσ2 88 17 (show ¬ ((24 ≤ 88 ∧ 88 < 29)) from by omega))
  have f20 : (0 : Int) ≤ τ 88 17 ∧ τ 88 17 ≤ 5 := hIτ 88 17
  have y21 : σ8 31 6 = τ 31 6 := ((hGσ8 31 6 (show ¬ ((31 = 89 ∧ 6 < 93)) from by omega))).trans (hGσ2 31 6 (show ¬ ((24 ≤ 31 ∧ 31 < 29)) from by omega))
  have f22 : (0 : Int) ≤ τ 31 6 ∧ τ 31 6 ≤ 1 := hIτ 31 6
  have y23 : σ8 39 6 = τ 39 6 := ((hGσ8 39 6 (show ¬ ((39 = 89 ∧ 6 < 93)) from by omega))).trans (hGσ2 39 6 (show ¬ ((24 ≤ 39 ∧ 39 < 29)) from by omega))
  have f24 : (0 : Int) ≤ τ 39 6 ∧ τ 39 6 ≤ 1 := hIτ 39 6
  have y25 : σ8 90 0 = τ 90 0 := ((hGσ8 90 0 (show ¬ ((90 = 89 ∧ 0 < 93)) from by omega))).trans (hGσ2 90 0 (show ¬ ((24 ≤ 90 ∧ 90 < 29)) from by omega))
  have f26 : (0 : Int) ≤ τ 90 0 ∧ τ 90 0 ≤ 1 := hIτ 90 0
  have y27 : σ8 90 1 = τ 90 1 := ((hGσ8 90 1 (show ¬ ((90 = 89 ∧ 1 < 93)) from by omega))).trans (hGσ2 90 1 (show ¬ ((24 ≤ 90 ∧ 90 < 29)) from by omega))
  have f28 : (0 : Int) ≤ τ 90 1 ∧ τ 90 1 ≤ 1 := hIτ 90 1
  exact K σ8 hIσ8 ⟨mσ8, by omega, sσ8, bσ8, by omega, by omega, by omega, tσ8, st9.1⟩
set_option maxHeartbeats 4000000 in
set_option maxRecDepth 100000 in
theorem w_case_11 {G : tw_G} (hX : tw_isX G) (hM : tw_isM G) {E : List Frame → Array Value → State → State → Prop} (hN : (gN G : Int) ≤ 2560) (i : Int) (hi : 0 ≤ i ∧ i + 5 ≤ (gN G : Int)) (τ : tw_M) (hIτ : tw_I τ) (hL : tw_LI τ) (K : ∀ τ' : tw_M, tw_I τ' → tw_LI τ' → tw_J G tw_ML E 1352 [(0, vR 300), (1, vR 0), (2, vR 88), (3, vI i)] [] τ') : tw_J G tw_ML E 509 [(0, vR 300), (1, vR 0), (2, vR 88), (3, vI i)] [] τ := by
  obtain ⟨mτ, zτ, sτ, bτ, fτ, kτ0, kτ1, tτ, stτ⟩ := hL
  have g9 : (0 : Int) ≤ τ 10 10 ∧ τ 10 10 ≤ 400 := hIτ 10 10
  obtain ⟨v1, ev1⟩ : ∃ v : Int, v = (gxs G (i + 1).toNat).toInt := ⟨_, rfl⟩
  have hv1 : (-2147483648 : Int) ≤ v1 ∧ v1 ≤ 2147483647 := by rw [ev1]; exact i32_in _
  obtain ⟨v2, ev2⟩ : ∃ v : Int, v = (gxs G (i + 2).toNat).toInt := ⟨_, rfl⟩
  have hv2 : (-2147483648 : Int) ≤ v2 ∧ v2 ≤ 2147483647 := by rw [ev2]; exact i32_in _
  obtain ⟨v3, ev3⟩ : ∃ v : Int, v = (gxs G (i + 3).toNat).toInt := ⟨_, rfl⟩
  have hv3 : (-2147483648 : Int) ≤ v3 ∧ v3 ≤ 2147483647 := by rw [ev3]; exact i32_in _
  obtain ⟨v4, ev4⟩ : ∃ v : Int, v = (gxs G (i + 4).toNat).toInt := ⟨_, rfl⟩
  have hv4 : (-2147483648 : Int) ≤ v4 ∧ v4 ≤ 2147483647 := by rw [ev4]; exact i32_in _
  refine j_aload_n (pc := 509) dL_law_509 rfl rfl ?_
  refine j_aload_n (pc := 510) dL_law_510 rfl rfl ?_
  refine j_iload_n (pc := 511) dL_law_511 rfl rfl ?_
  refine j_iconst (pc := 512) dL_law_512 ?_
  refine j_iadd (pc := 513) dL_law_513 ?_
  refine j_scrAt (pc := 514) dL_law_514 (by omega) (by omega) (by omega) ?_
  refine j_topV (show _ = v1 from ev1.symm) ?_
  refine j_aload_n (pc := 515) dL_law_515 rfl rfl ?_
  refine j_iload_n (pc := 516) dL_law_516 rfl rfl ?_
  refine j_iconst (pc := 517) dL_law_517 ?_
  refine j_iadd (pc := 518) dL_law_518 ?_
  refine j_scrAt (pc := 519) dL_law_519 (by omega) (by omega) (by omega) ?_
  refine j_topV (show _ = v2 from ev2.symm) ?_
  refine j_aload_n (pc := 520) dL_law_520 rfl rfl ?_
  refine j_iload_n (pc := 521) dL_law_521 rfl rfl ?_
  refine j_iconst (pc := 522) dL_law_522 ?_
  refine j_iadd (pc := 523) dL_law_523 ?_
  refine j_scrAt (pc := 524) dL_law_524 (by omega) (by omega) (by omega) ?_
  refine j_topV (show _ = v3 from ev3.symm) ?_
  refine j_callV (pc := 525) (As := [vI v1, vI v2, vI v3]) (st := []) (c_X11_fall hX v1 ⟨by omega, by omega⟩ v2 ⟨by omega, by omega⟩ v3 ⟨by omega, by omega⟩ τ hIτ) mv_L_64 rfl rfl rfl (a_0 hX) dL_law_525 ⟨Nat.le_of_ble_eq_true rfl, Nat.le_of_ble_eq_true rfl⟩ ⟨Nat.le_of_ble_eq_true rfl, Nat.le_of_ble_eq_true rfl⟩ rfl (Nat.le_of_ble_eq_true rfl) rfl (fun z1 σ2 hz1 => ?_)
  obtain ⟨r4, rfl, hr4, hIσ2, hGσ2, -⟩ := hz1
  refine j_st (st' := [vI r4]) rfl ?_
  have y5 : σ2 10 10 = τ 10 10 := (hGσ2 10 10 (show ¬ (10 = 55) from by omega))
  have f6 : (0 : Int) ≤ τ 10 10 ∧ τ 10 10 ≤ 400 := hIτ 10 10
  have bσ2 : BY σ2 := BY_kept bτ (fun j => hGσ2 11 j (show ¬ (11 = 55) from by omega)) (fun j => hGσ2 98 j (show ¬ (98 = 55) from by omega)) (by omega)
  have mσ2 : mI σ2 := mI_kept mτ (fun j hj => hGσ2 89 j (show ¬ (89 = 55) from by omega)) (fun j => hGσ2 90 j (show ¬ (90 = 55) from by omega)) (hGσ2 91 0 (show ¬ (91 = 55) from by omega)) hIτ
  have sσ2 : SR σ2 := SR_kept sτ (fun c j h => hGσ2 c j (show ¬ (c = 55) from by omega)) (fun j => hGσ2 104 j (show ¬ (104 = 55) from by omega)) (fun j => hGσ2 105 j (show ¬ (105 = 55) from by omega))
  have tσ2 : TT σ2 := TT_kept tτ (fun c j h => hGσ2 c j (show ¬ (c = 55) from by omega)) (fun j h => hGσ2 89 j (show ¬ (89 = 55) from by omega))
  have stσ2 : ST σ2 := ST_F stτ (fun c j h => hGσ2 c j (show ¬ (c = 55) from by unfold STR at h; omega))
  refine j_pop (pc := 528) dL_law_528 rfl ?_
  refine j_aload_n (pc := 529) dL_law_529 rfl rfl ?_
  refine j_aload_n (pc := 530) dL_law_530 rfl rfl ?_
  refine j_iload_n (pc := 531) dL_law_531 rfl rfl ?_
  refine j_iconst (pc := 532) dL_law_532 ?_
  refine j_iadd (pc := 533) dL_law_533 ?_
  refine j_scrAt (pc := 534) dL_law_534 (by omega) (by omega) (by omega) ?_
  refine j_topV (show _ = v1 from ev1.symm) ?_
  refine j_aload_n (pc := 535) dL_law_535 rfl rfl ?_
  refine j_iload_n (pc := 536) dL_law_536 rfl rfl ?_
  refine j_iconst (pc := 537) dL_law_537 ?_
  refine j_iadd (pc := 538) dL_law_538 ?_
  refine j_scrAt (pc := 539) dL_law_539 (by omega) (by omega) (by omega) ?_
  refine j_topV (show _ = v2 from ev2.symm) ?_
  refine j_aload_n (pc := 540) dL_law_540 rfl rfl ?_
  refine j_iload_n (pc := 541) dL_law_541 rfl rfl ?_
  refine j_iconst (pc := 542) dL_law_542 ?_
  refine j_iadd (pc := 543) dL_law_543 ?_
  refine j_scrAt (pc := 544) dL_law_544 (by omega) (by omega) (by omega) ?_
  refine j_topV (show _ = v3 from ev3.symm) ?_
  refine j_callV (pc := 545) (As := [vI v1, vI v2, vI v3]) (st := []) (c_X12_fall hM v1 ⟨by omega, by omega⟩ v2 ⟨by omega, by omega⟩ v3 ⟨by omega, by omega⟩ σ2 hIσ2) mv_L_68 rfl rfl rfl (a_88 hM) dL_law_545 ⟨Nat.le_of_ble_eq_true rfl, Nat.le_of_ble_eq_true rfl⟩ ⟨Nat.le_of_ble_eq_true rfl, Nat.le_of_ble_eq_true rfl⟩ rfl (Nat.le_of_ble_eq_true rfl) rfl (fun z7 σ8 hz7 => ?_)
  obtain ⟨r10, rfl, hr10, hIσ8, hGσ8, -⟩ := hz7
  refine j_st (st' := [vI r10]) rfl ?_
  have y11 : σ8 10 10 = τ 10 10 := ((hGσ8 10 10 (show ¬ ((10 = 88 ∧ (10 = 19 ∨ 10 = 20 ∨ 10 = 21 ∨ 10 = 22 ∨ 10 = 23))) from by omega))).trans (hGσ2 10 10 (show ¬ (10 = 55) from by omega))
  have bσ8 : BY σ8 := BY_kept bσ2 (fun j => hGσ8 11 j (show ¬ ((11 = 88 ∧ (j = 19 ∨ j = 20 ∨ j = 21 ∨ j = 22 ∨ j = 23))) from by omega)) (fun j => hGσ8 98 j (show ¬ ((98 = 88 ∧ (j = 19 ∨ j = 20 ∨ j = 21 ∨ j = 22 ∨ j = 23))) from by omega)) (by omega)
  have mσ8 : mI σ8 := mI_kept mσ2 (fun j hj => hGσ8 89 j (show ¬ ((89 = 88 ∧ (j = 19 ∨ j = 20 ∨ j = 21 ∨ j = 22 ∨ j = 23))) from by omega)) (fun j => hGσ8 90 j (show ¬ ((90 = 88 ∧ (j = 19 ∨ j = 20 ∨ j = 21 ∨ j = 22 ∨ j = 23))) from by omega)) (hGσ8 91 0 (show ¬ ((91 = 88 ∧ (0 = 19 ∨ 0 = 20 ∨ 0 = 21 ∨ 0 = 22 ∨ 0 = 23))) from by omega)) hIσ2
  have sσ8 : SR σ8 := SR_kept sσ2 (fun c j h => hGσ8 c j (show ¬ ((c = 88 ∧ (j = 19 ∨ j = 20 ∨ j = 21 ∨ j = 22 ∨ j = 23))) from by omega)) (fun j => hGσ8 104 j (show ¬ ((104 = 88 ∧ (j = 19 ∨ j = 20 ∨ j = 21 ∨ j = 22 ∨ j = 23))) from by omega)) (fun j => hGσ8 105 j (show ¬ ((105 = 88 ∧ (j = 19 ∨ j = 20 ∨ j = 21 ∨ j = 22 ∨ j = 23))) from by omega))
  have tσ8 : TT σ8 := TT_kept tσ2 (fun c j h => hGσ8 c j (show ¬ ((c = 88 ∧ (j = 19 ∨ j = 20 ∨ j = 21 ∨ j = 22 ∨ j = 23))) from by omega)) (fun j h => hGσ8 89 j (show ¬ ((89 = 88 ∧ (j = 19 ∨ j = 20 ∨ j = 21 ∨ j = 22 ∨ j = 23))) from by omega))
  have stσ8 : ST σ8 := ST_F stσ2 (fun c j h => hGσ8 c j (show ¬ ((c = 88 ∧ (j = 19 ∨ j = 20 ∨ j = 21 ∨ j = 22 ∨ j = 23))) from by unfold STR at h; omega))
  refine j_pop (pc := 548) dL_law_548 rfl ?_
  refine j_goto (pc := 549) (tgt := 1352) dL_law_549 rfl ?_
  have y12 : σ8 10 10 = τ 10 10 := ((hGσ8 10 10 (show ¬ ((10 = 88 ∧ (10 = 19 ∨ 10 = 20 ∨ 10 = 21 ∨ 10 = 22 ∨ 10 = 23))) from by omega))).trans (hGσ2 10 10 (show ¬ (10 = 55) from by omega))
  have y13 : σ8 88 12 = τ 88 12 := ((hGσ8 88 12 (show ¬ ((88 = 88 ∧ (12 = 19 ∨ 12 = 20 ∨ 12 = 21 ∨ 12 = 22 ∨ 12 = 23))) from by omega))).trans (hGσ2 88 12 (show ¬ (88 = 55) from by omega))
  have f14 : (0 : Int) ≤ τ 88 12 ∧ τ 88 12 ≤ 400 := hIτ 88 12
  have y15 : σ8 0 13 = τ 0 13 := ((hGσ8 0 13 (show ¬ ((0 = 88 ∧ (13 = 19 ∨ 13 = 20 ∨ 13 = 21 ∨ 13 = 22 ∨ 13 = 23))) from by omega))).trans (hGσ2 0 13 (show ¬ (0 = 55) from by omega))
  have f16 : (-2147483648 : Int) ≤ τ 0 13 ∧ τ 0 13 ≤ 2147483647 := hIτ 0 13
  have y17 : σ8 88 17 = τ 88 17 := ((hGσ8 88 17 (show ¬ ((88 = 88 ∧ (17 = 19 ∨ 17 = 20 ∨ 17 = 21 ∨ 17 = 22 ∨ 17 = 23))) from by omega))).trans (hGσ2 88 17 (show ¬ (88 = 55) from by omega))
  have f18 : (0 : Int) ≤ τ 88 17 ∧ τ 88 17 ≤ 5 := hIτ 88 17
  have y19 : σ8 31 6 = τ 31 6 := ((hGσ8 31 6 (show ¬ ((31 = 88 ∧ (6 = 19 ∨ 6 = 20 ∨ 6 = 21 ∨ 6 = 22 ∨ 6 = 23))) from by omega))).trans (hGσ2 31 6 (show ¬ (31 = 55) from by omega))
  have f20 : (0 : Int) ≤ τ 31 6 ∧ τ 31 6 ≤ 1 := hIτ 31 6
  have y21 : σ8 39 6 = τ 39 6 := ((hGσ8 39 6 (show ¬ ((39 = 88 ∧ (6 = 19 ∨ 6 = 20 ∨ 6 = 21 ∨ 6 = 22 ∨ 6 = 23))) from by omega))).trans (hGσ2 39 6 (show ¬ (39 = 55) from by omega))
  have f22 : (0 : Int) ≤ τ 39 6 ∧ τ 39 6 ≤ 1 := hIτ 39 6
  have y23 : σ8 90 0 = τ 90 0 := ((hGσ8 90 0 (show ¬ ((90 = 88 ∧ (0 = 19 ∨ 0 = 20 ∨ 0 = 21 ∨ 0 = 22 ∨ 0 = 23))) from by omega))).trans (hGσ2 90 0 (show ¬ (90 = 55) from by omega))
  have f24 : (0 : Int) ≤ τ 90 0 ∧ τ 90 0 ≤ 1 := hIτ 90 0
  have y25 : σ8 90 1 = τ 90 1 := ((hGσ8 90 1 (show ¬ ((90 = 88 ∧ (1 = 19 ∨ 1 = 20 ∨ 1 = 21 ∨ 1 = 22 ∨ 1 = 23))) from by omega))).trans (hGσ2 90 1 (show ¬ (90 = 55) from by omega))
  have f26 : (0 : Int) ≤ τ 90 1 ∧ τ 90 1 ≤ 1 := hIτ 90 1
  exact K σ8 hIσ8 ⟨mσ8, by omega, sσ8, bσ8, by omega, by omega, by omega, tσ8, stσ8⟩
set_option maxHeartbeats 4000000 in
set_option maxRecDepth 100000 in
theorem w_case_12 {G : tw_G} (hX : tw_isX G) (hM : tw_isM G) {E : List Frame → Array Value → State → State → Prop} (hN : (gN G : Int) ≤ 2560) (i : Int) (hi : 0 ≤ i ∧ i + 5 ≤ (gN G : Int)) (τ : tw_M) (hIτ : tw_I τ) (hL : tw_LI τ) (K : ∀ τ' : tw_M, tw_I τ' → tw_LI τ' → tw_J G tw_ML E 1352 [(0, vR 300), (1, vR 0), (2, vR 88), (3, vI i)] [] τ') : tw_J G tw_ML E 552 [(0, vR 300), (1, vR 0), (2, vR 88), (3, vI i)] [] τ := by
  obtain ⟨mτ, zτ, sτ, bτ, fτ, kτ0, kτ1, tτ, stτ⟩ := hL
  have g9 : (0 : Int) ≤ τ 10 10 ∧ τ 10 10 ≤ 400 := hIτ 10 10
  obtain ⟨v1, ev1⟩ : ∃ v : Int, v = (gxs G (i + 1).toNat).toInt := ⟨_, rfl⟩
  have hv1 : (-2147483648 : Int) ≤ v1 ∧ v1 ≤ 2147483647 := by rw [ev1]; exact i32_in _
  obtain ⟨v2, ev2⟩ : ∃ v : Int, v = (gxs G (i + 2).toNat).toInt := ⟨_, rfl⟩
  have hv2 : (-2147483648 : Int) ≤ v2 ∧ v2 ≤ 2147483647 := by rw [ev2]; exact i32_in _
  obtain ⟨v3, ev3⟩ : ∃ v : Int, v = (gxs G (i + 3).toNat).toInt := ⟨_, rfl⟩
  have hv3 : (-2147483648 : Int) ≤ v3 ∧ v3 ≤ 2147483647 := by rw [ev3]; exact i32_in _
  obtain ⟨v4, ev4⟩ : ∃ v : Int, v = (gxs G (i + 4).toNat).toInt := ⟨_, rfl⟩
  have hv4 : (-2147483648 : Int) ≤ v4 ∧ v4 ≤ 2147483647 := by rw [ev4]; exact i32_in _
  refine j_aload_n (pc := 552) dL_law_552 rfl rfl ?_
  refine j_aload_n (pc := 553) dL_law_553 rfl rfl ?_
  refine j_iload_n (pc := 554) dL_law_554 rfl rfl ?_
  refine j_iconst (pc := 555) dL_law_555 ?_
  refine j_iadd (pc := 556) dL_law_556 ?_
  refine j_scrAt (pc := 557) dL_law_557 (by omega) (by omega) (by omega) ?_
  refine j_topV (show _ = v1 from ev1.symm) ?_
  refine j_aload_n (pc := 558) dL_law_558 rfl rfl ?_
  refine j_iload_n (pc := 559) dL_law_559 rfl rfl ?_
  refine j_iconst (pc := 560) dL_law_560 ?_
  refine j_iadd (pc := 561) dL_law_561 ?_
  refine j_scrAt (pc := 562) dL_law_562 (by omega) (by omega) (by omega) ?_
  refine j_topV (show _ = v2 from ev2.symm) ?_
  refine j_aload_n (pc := 563) dL_law_563 rfl rfl ?_
  refine j_iload_n (pc := 564) dL_law_564 rfl rfl ?_
  refine j_iconst (pc := 565) dL_law_565 ?_
  refine j_iadd (pc := 566) dL_law_566 ?_
  refine j_scrAt (pc := 567) dL_law_567 (by omega) (by omega) (by omega) ?_
  refine j_topV (show _ = v3 from ev3.symm) ?_
  refine j_callV (pc := 568) (As := [vI v1, vI v2, vI v3]) (st := []) (c_X11_harm hX v1 ⟨by omega, by omega⟩ v2 ⟨by omega, by omega⟩ v3 ⟨by omega, by omega⟩ τ hIτ) mv_L_69 rfl rfl rfl (a_0 hX) dL_law_568 ⟨Nat.le_of_ble_eq_true rfl, Nat.le_of_ble_eq_true rfl⟩ ⟨Nat.le_of_ble_eq_true rfl, Nat.le_of_ble_eq_true rfl⟩ rfl (Nat.le_of_ble_eq_true rfl) rfl (fun z1 σ2 hz1 => ?_)
  obtain ⟨r4, rfl, hr4, hIσ2, hGσ2, -⟩ := hz1
  refine j_st (st' := [vL r4]) rfl ?_
  have y5 : σ2 10 10 = τ 10 10 := (hGσ2 10 10 (show ¬ ((10 = 58 ∧ (10 = 2 ∨ 10 = 3))) from by omega))
  have f6 : (0 : Int) ≤ τ 10 10 ∧ τ 10 10 ≤ 400 := hIτ 10 10
  have bσ2 : BY σ2 := BY_kept bτ (fun j => hGσ2 11 j (show ¬ ((11 = 58 ∧ (j = 2 ∨ j = 3))) from by omega)) (fun j => hGσ2 98 j (show ¬ ((98 = 58 ∧ (j = 2 ∨ j = 3))) from by omega)) (by omega)
  have mσ2 : mI σ2 := mI_kept mτ (fun j hj => hGσ2 89 j (show ¬ ((89 = 58 ∧ (j = 2 ∨ j = 3))) from by omega)) (fun j => hGσ2 90 j (show ¬ ((90 = 58 ∧ (j = 2 ∨ j = 3))) from by omega)) (hGσ2 91 0 (show ¬ ((91 = 58 ∧ (0 = 2 ∨ 0 = 3))) from by omega)) hIτ
  have sσ2 : SR σ2 := SR_kept sτ (fun c j h => hGσ2 c j (show ¬ ((c = 58 ∧ (j = 2 ∨ j = 3))) from by omega)) (fun j => hGσ2 104 j (show ¬ ((104 = 58 ∧ (j = 2 ∨ j = 3))) from by omega)) (fun j => hGσ2 105 j (show ¬ ((105 = 58 ∧ (j = 2 ∨ j = 3))) from by omega))
  have tσ2 : TT σ2 := TT_kept tτ (fun c j h => hGσ2 c j (show ¬ ((c = 58 ∧ (j = 2 ∨ j = 3))) from by omega)) (fun j h => hGσ2 89 j (show ¬ ((89 = 58 ∧ (j = 2 ∨ j = 3))) from by omega))
  have stσ2 : ST σ2 := ST_F stτ (fun c j h => hGσ2 c j (show ¬ ((c = 58 ∧ (j = 2 ∨ j = 3))) from by unfold STR at h; omega))
  refine j_pop2 (pc := 571) dL_law_571 rfl ?_
  refine j_aload_n (pc := 572) dL_law_572 rfl rfl ?_
  refine j_aload_n (pc := 573) dL_law_573 rfl rfl ?_
  refine j_iload_n (pc := 574) dL_law_574 rfl rfl ?_
  refine j_iconst (pc := 575) dL_law_575 ?_
  refine j_iadd (pc := 576) dL_law_576 ?_
  refine j_scrAt (pc := 577) dL_law_577 (by omega) (by omega) (by omega) ?_
  refine j_topV (show _ = v1 from ev1.symm) ?_
  refine j_aload_n (pc := 578) dL_law_578 rfl rfl ?_
  refine j_iload_n (pc := 579) dL_law_579 rfl rfl ?_
  refine j_iconst (pc := 580) dL_law_580 ?_
  refine j_iadd (pc := 581) dL_law_581 ?_
  refine j_scrAt (pc := 582) dL_law_582 (by omega) (by omega) (by omega) ?_
  refine j_topV (show _ = v2 from ev2.symm) ?_
  refine j_aload_n (pc := 583) dL_law_583 rfl rfl ?_
  refine j_iload_n (pc := 584) dL_law_584 rfl rfl ?_
  refine j_iconst (pc := 585) dL_law_585 ?_
  refine j_iadd (pc := 586) dL_law_586 ?_
  refine j_scrAt (pc := 587) dL_law_587 (by omega) (by omega) (by omega) ?_
  refine j_topV (show _ = v3 from ev3.symm) ?_
  have y7 : σ2 0 ((σ2 91 0).toNat) = τ 0 ((σ2 91 0).toNat) := (hGσ2 0 ((σ2 91 0).toNat) (show ¬ ((0 = 58 ∧ ((σ2 91 0).toNat = 2 ∨ (σ2 91 0).toNat = 3))) from by omega))
  refine j_callV (pc := 588) (As := [vI v1, vI v2, vI v3]) (st := []) (c_X12_harm hM v1 ⟨by omega, by omega⟩ v2 ⟨by omega, by omega⟩ v3 ⟨by omega, by omega⟩ σ2 hIσ2 mσ2.1) mv_L_73 rfl rfl rfl (a_88 hM) dL_law_588 ⟨Nat.le_of_ble_eq_true rfl, Nat.le_of_ble_eq_true rfl⟩ ⟨Nat.le_of_ble_eq_true rfl, Nat.le_of_ble_eq_true rfl⟩ rfl (Nat.le_of_ble_eq_true rfl) rfl (fun z8 σ9 hz8 => ?_)
  obtain ⟨r11, rfl, hr11, hIσ9, hGσ9, -⟩ := hz8
  refine j_st (st' := [vL r11]) rfl ?_
  have y12 : σ9 10 10 = τ 10 10 := ((hGσ9 10 10 (show ¬ ((10 = 88 ∧ (10 = 19 ∨ 10 = 20 ∨ 10 = 21 ∨ 10 = 22 ∨ 10 = 23))) from by omega))).trans (hGσ2 10 10 (show ¬ ((10 = 58 ∧ (10 = 2 ∨ 10 = 3))) from by omega))
  have bσ9 : BY σ9 := BY_kept bσ2 (fun j => hGσ9 11 j (show ¬ ((11 = 88 ∧ (j = 19 ∨ j = 20 ∨ j = 21 ∨ j = 22 ∨ j = 23))) from by omega)) (fun j => hGσ9 98 j (show ¬ ((98 = 88 ∧ (j = 19 ∨ j = 20 ∨ j = 21 ∨ j = 22 ∨ j = 23))) from by omega)) (by omega)
  have mσ9 : mI σ9 := mI_kept mσ2 (fun j hj => hGσ9 89 j (show ¬ ((89 = 88 ∧ (j = 19 ∨ j = 20 ∨ j = 21 ∨ j = 22 ∨ j = 23))) from by omega)) (fun j => hGσ9 90 j (show ¬ ((90 = 88 ∧ (j = 19 ∨ j = 20 ∨ j = 21 ∨ j = 22 ∨ j = 23))) from by omega)) (hGσ9 91 0 (show ¬ ((91 = 88 ∧ (0 = 19 ∨ 0 = 20 ∨ 0 = 21 ∨ 0 = 22 ∨ 0 = 23))) from by omega)) hIσ2
  have sσ9 : SR σ9 := SR_kept sσ2 (fun c j h => hGσ9 c j (show ¬ ((c = 88 ∧ (j = 19 ∨ j = 20 ∨ j = 21 ∨ j = 22 ∨ j = 23))) from by omega)) (fun j => hGσ9 104 j (show ¬ ((104 = 88 ∧ (j = 19 ∨ j = 20 ∨ j = 21 ∨ j = 22 ∨ j = 23))) from by omega)) (fun j => hGσ9 105 j (show ¬ ((105 = 88 ∧ (j = 19 ∨ j = 20 ∨ j = 21 ∨ j = 22 ∨ j = 23))) from by omega))
  have tσ9 : TT σ9 := TT_kept tσ2 (fun c j h => hGσ9 c j (show ¬ ((c = 88 ∧ (j = 19 ∨ j = 20 ∨ j = 21 ∨ j = 22 ∨ j = 23))) from by omega)) (fun j h => hGσ9 89 j (show ¬ ((89 = 88 ∧ (j = 19 ∨ j = 20 ∨ j = 21 ∨ j = 22 ∨ j = 23))) from by omega))
  have stσ9 : ST σ9 := ST_F stσ2 (fun c j h => hGσ9 c j (show ¬ ((c = 88 ∧ (j = 19 ∨ j = 20 ∨ j = 21 ∨ j = 22 ∨ j = 23))) from by unfold STR at h; omega))
  refine j_pop2 (pc := 591) dL_law_591 rfl ?_
  refine j_goto (pc := 592) (tgt := 1352) dL_law_592 rfl ?_
  have y13 : σ9 10 10 = τ 10 10 := ((hGσ9 10 10 (show ¬ ((10 = 88 ∧ (10 = 19 ∨ 10 = 20 ∨ 10 = 21 ∨ 10 = 22 ∨ 10 = 23))) from by omega))).trans (hGσ2 10 10 (show ¬ ((10 = 58 ∧ (10 = 2 ∨ 10 = 3))) from by omega))
  have y14 : σ9 88 12 = τ 88 12 := ((hGσ9 88 12 (show ¬ ((88 = 88 ∧ (12 = 19 ∨ 12 = 20 ∨ 12 = 21 ∨ 12 = 22 ∨ 12 = 23))) from by omega))).trans (hGσ2 88 12 (show ¬ ((88 = 58 ∧ (12 = 2 ∨ 12 = 3))) from by omega))
  have f15 : (0 : Int) ≤ τ 88 12 ∧ τ 88 12 ≤ 400 := hIτ 88 12
  have y16 : σ9 0 13 = τ 0 13 := ((hGσ9 0 13 (show ¬ ((0 = 88 ∧ (13 = 19 ∨ 13 = 20 ∨ 13 = 21 ∨ 13 = 22 ∨ 13 = 23))) from by omega))).trans (hGσ2 0 13 (show ¬ ((0 = 58 ∧ (13 = 2 ∨ 13 = 3))) from by omega))
  have f17 : (-2147483648 : Int) ≤ τ 0 13 ∧ τ 0 13 ≤ 2147483647 := hIτ 0 13
  have y18 : σ9 88 17 = τ 88 17 := ((hGσ9 88 17 (show ¬ ((88 = 88 ∧ (17 = 19 ∨ 17 = 20 ∨ 17 = 21 ∨ 17 = 22 ∨ 17 = 23))) from by omega))).trans (hGσ2 88 17 (show ¬ ((88 = 58 ∧ (17 = 2 ∨ 17 = 3))) from by omega))
  have f19 : (0 : Int) ≤ τ 88 17 ∧ τ 88 17 ≤ 5 := hIτ 88 17
  have y20 : σ9 31 6 = τ 31 6 := ((hGσ9 31 6 (show ¬ ((31 = 88 ∧ (6 = 19 ∨ 6 = 20 ∨ 6 = 21 ∨ 6 = 22 ∨ 6 = 23))) from by omega))).trans (hGσ2 31 6 (show ¬ ((31 = 58 ∧ (6 = 2 ∨ 6 = 3))) from by omega))
  have f21 : (0 : Int) ≤ τ 31 6 ∧ τ 31 6 ≤ 1 := hIτ 31 6
  have y22 : σ9 39 6 = τ 39 6 := ((hGσ9 39 6 (show ¬ ((39 = 88 ∧ (6 = 19 ∨ 6 = 20 ∨ 6 = 21 ∨ 6 = 22 ∨ 6 = 23))) from by omega))).trans (hGσ2 39 6 (show ¬ ((39 = 58 ∧ (6 = 2 ∨ 6 = 3))) from by omega))
  have f23 : (0 : Int) ≤ τ 39 6 ∧ τ 39 6 ≤ 1 := hIτ 39 6
  have y24 : σ9 90 0 = τ 90 0 := ((hGσ9 90 0 (show ¬ ((90 = 88 ∧ (0 = 19 ∨ 0 = 20 ∨ 0 = 21 ∨ 0 = 22 ∨ 0 = 23))) from by omega))).trans (hGσ2 90 0 (show ¬ ((90 = 58 ∧ (0 = 2 ∨ 0 = 3))) from by omega))
  have f25 : (0 : Int) ≤ τ 90 0 ∧ τ 90 0 ≤ 1 := hIτ 90 0
  have y26 : σ9 90 1 = τ 90 1 := ((hGσ9 90 1 (show ¬ ((90 = 88 ∧ (1 = 19 ∨ 1 = 20 ∨ 1 = 21 ∨ 1 = 22 ∨ 1 = 23))) from by omega))).trans (hGσ2 90 1 (show ¬ ((90 = 58 ∧ (1 = 2 ∨ 1 = 3))) from by omega))
  have f27 : (0 : Int) ≤ τ 90 1 ∧ τ 90 1 ≤ 1 := hIτ 90 1
  exact K σ9 hIσ9 ⟨mσ9, by omega, sσ9, bσ9, by omega, by omega, by omega, tσ9, stσ9⟩
set_option maxHeartbeats 4000000 in
set_option maxRecDepth 100000 in
theorem w_case_13 {G : tw_G} (hX : tw_isX G) (hM : tw_isM G) {E : List Frame → Array Value → State → State → Prop} (hN : (gN G : Int) ≤ 2560) (i : Int) (hi : 0 ≤ i ∧ i + 5 ≤ (gN G : Int)) (τ : tw_M) (hIτ : tw_I τ) (hL : tw_LI τ) (K : ∀ τ' : tw_M, tw_I τ' → tw_LI τ' → tw_J G tw_ML E 1352 [(0, vR 300), (1, vR 0), (2, vR 88), (3, vI i)] [] τ') : tw_J G tw_ML E 595 [(0, vR 300), (1, vR 0), (2, vR 88), (3, vI i)] [] τ := by
  obtain ⟨mτ, zτ, sτ, bτ, fτ, kτ0, kτ1, tτ, stτ⟩ := hL
  have g9 : (0 : Int) ≤ τ 10 10 ∧ τ 10 10 ≤ 400 := hIτ 10 10
  obtain ⟨v1, ev1⟩ : ∃ v : Int, v = (gxs G (i + 1).toNat).toInt := ⟨_, rfl⟩
  have hv1 : (-2147483648 : Int) ≤ v1 ∧ v1 ≤ 2147483647 := by rw [ev1]; exact i32_in _
  obtain ⟨v2, ev2⟩ : ∃ v : Int, v = (gxs G (i + 2).toNat).toInt := ⟨_, rfl⟩
  have hv2 : (-2147483648 : Int) ≤ v2 ∧ v2 ≤ 2147483647 := by rw [ev2]; exact i32_in _
  obtain ⟨v3, ev3⟩ : ∃ v : Int, v = (gxs G (i + 3).toNat).toInt := ⟨_, rfl⟩
  have hv3 : (-2147483648 : Int) ≤ v3 ∧ v3 ≤ 2147483647 := by rw [ev3]; exact i32_in _
  obtain ⟨v4, ev4⟩ : ∃ v : Int, v = (gxs G (i + 4).toNat).toInt := ⟨_, rfl⟩
  have hv4 : (-2147483648 : Int) ≤ v4 ∧ v4 ≤ 2147483647 := by rw [ev4]; exact i32_in _
  refine j_aload_n (pc := 595) dL_law_595 rfl rfl ?_
  refine j_aload_n (pc := 596) dL_law_596 rfl rfl ?_
  refine j_iload_n (pc := 597) dL_law_597 rfl rfl ?_
  refine j_iconst (pc := 598) dL_law_598 ?_
  refine j_iadd (pc := 599) dL_law_599 ?_
  refine j_scrAt (pc := 600) dL_law_600 (by omega) (by omega) (by omega) ?_
  refine j_topV (show _ = v1 from ev1.symm) ?_
  refine j_aload_n (pc := 601) dL_law_601 rfl rfl ?_
  refine j_iload_n (pc := 602) dL_law_602 rfl rfl ?_
  refine j_iconst (pc := 603) dL_law_603 ?_
  refine j_iadd (pc := 604) dL_law_604 ?_
  refine j_scrAt (pc := 605) dL_law_605 (by omega) (by omega) (by omega) ?_
  refine j_topV (show _ = v2 from ev2.symm) ?_
  refine j_callV (pc := 606) (As := [vI v1, vI v2]) (st := []) (c_X11_mean hX v1 ⟨by omega, by omega⟩ v2 ⟨by omega, by omega⟩ τ hIτ) mv_L_74 rfl rfl rfl (a_0 hX) dL_law_606 ⟨Nat.le_of_ble_eq_true rfl, Nat.le_of_ble_eq_true rfl⟩ ⟨Nat.le_of_ble_eq_true rfl, Nat.le_of_ble_eq_true rfl⟩ rfl (Nat.le_of_ble_eq_true rfl) rfl (fun z1 σ2 hz1 => ?_)
  obtain ⟨r4, rfl, hr4, hIσ2, hGσ2, -⟩ := hz1
  refine j_st (st' := [vL r4]) rfl ?_
  have y5 : σ2 10 10 = τ 10 10 := (hGσ2 10 10 (show ¬ ((10 = 58 ∧ (10 = 2 ∨ 10 = 3))) from by omega))
  have f6 : (0 : Int) ≤ τ 10 10 ∧ τ 10 10 ≤ 400 := hIτ 10 10
  have bσ2 : BY σ2 := BY_kept bτ (fun j => hGσ2 11 j (show ¬ ((11 = 58 ∧ (j = 2 ∨ j = 3))) from by omega)) (fun j => hGσ2 98 j (show ¬ ((98 = 58 ∧ (j = 2 ∨ j = 3))) from by omega)) (by omega)
  have mσ2 : mI σ2 := mI_kept mτ (fun j hj => hGσ2 89 j (show ¬ ((89 = 58 ∧ (j = 2 ∨ j = 3))) from by omega)) (fun j => hGσ2 90 j (show ¬ ((90 = 58 ∧ (j = 2 ∨ j = 3))) from by omega)) (hGσ2 91 0 (show ¬ ((91 = 58 ∧ (0 = 2 ∨ 0 = 3))) from by omega)) hIτ
  have sσ2 : SR σ2 := SR_kept sτ (fun c j h => hGσ2 c j (show ¬ ((c = 58 ∧ (j = 2 ∨ j = 3))) from by omega)) (fun j => hGσ2 104 j (show ¬ ((104 = 58 ∧ (j = 2 ∨ j = 3))) from by omega)) (fun j => hGσ2 105 j (show ¬ ((105 = 58 ∧ (j = 2 ∨ j = 3))) from by omega))
  have tσ2 : TT σ2 := TT_kept tτ (fun c j h => hGσ2 c j (show ¬ ((c = 58 ∧ (j = 2 ∨ j = 3))) from by omega)) (fun j h => hGσ2 89 j (show ¬ ((89 = 58 ∧ (j = 2 ∨ j = 3))) from by omega))
  have stσ2 : ST σ2 := ST_F stτ (fun c j h => hGσ2 c j (show ¬ ((c = 58 ∧ (j = 2 ∨ j = 3))) from by unfold STR at h; omega))
  refine j_pop2 (pc := 609) dL_law_609 rfl ?_
  refine j_aload_n (pc := 610) dL_law_610 rfl rfl ?_
  refine j_aload_n (pc := 611) dL_law_611 rfl rfl ?_
  refine j_iload_n (pc := 612) dL_law_612 rfl rfl ?_
  refine j_iconst (pc := 613) dL_law_613 ?_
  refine j_iadd (pc := 614) dL_law_614 ?_
  refine j_scrAt (pc := 615) dL_law_615 (by omega) (by omega) (by omega) ?_
  refine j_topV (show _ = v1 from ev1.symm) ?_
  refine j_aload_n (pc := 616) dL_law_616 rfl rfl ?_
  refine j_iload_n (pc := 617) dL_law_617 rfl rfl ?_
  refine j_iconst (pc := 618) dL_law_618 ?_
  refine j_iadd (pc := 619) dL_law_619 ?_
  refine j_scrAt (pc := 620) dL_law_620 (by omega) (by omega) (by omega) ?_
  refine j_topV (show _ = v2 from ev2.symm) ?_
  have y7 : σ2 0 ((σ2 91 0).toNat) = τ 0 ((σ2 91 0).toNat) := (hGσ2 0 ((σ2 91 0).toNat) (show ¬ ((0 = 58 ∧ ((σ2 91 0).toNat = 2 ∨ (σ2 91 0).toNat = 3))) from by omega))
  refine j_callV (pc := 621) (As := [vI v1, vI v2]) (st := []) (c_X12_mean hM v1 ⟨by omega, by omega⟩ v2 ⟨by omega, by omega⟩ σ2 hIσ2 mσ2.1) mv_L_78 rfl rfl rfl (a_88 hM) dL_law_621 ⟨Nat.le_of_ble_eq_true rfl, Nat.le_of_ble_eq_true rfl⟩ ⟨Nat.le_of_ble_eq_true rfl, Nat.le_of_ble_eq_true rfl⟩ rfl (Nat.le_of_ble_eq_true rfl) rfl (fun z8 σ9 hz8 => ?_)
  obtain ⟨r11, rfl, hr11, hIσ9, hGσ9, -⟩ := hz8
  refine j_st (st' := [vL r11]) rfl ?_
  have y12 : σ9 10 10 = τ 10 10 := ((hGσ9 10 10 (show ¬ ((10 = 88 ∧ (10 = 19 ∨ 10 = 20 ∨ 10 = 21 ∨ 10 = 22 ∨ 10 = 23))) from by omega))).trans (hGσ2 10 10 (show ¬ ((10 = 58 ∧ (10 = 2 ∨ 10 = 3))) from by omega))
  have bσ9 : BY σ9 := BY_kept bσ2 (fun j => hGσ9 11 j (show ¬ ((11 = 88 ∧ (j = 19 ∨ j = 20 ∨ j = 21 ∨ j = 22 ∨ j = 23))) from by omega)) (fun j => hGσ9 98 j (show ¬ ((98 = 88 ∧ (j = 19 ∨ j = 20 ∨ j = 21 ∨ j = 22 ∨ j = 23))) from by omega)) (by omega)
  have mσ9 : mI σ9 := mI_kept mσ2 (fun j hj => hGσ9 89 j (show ¬ ((89 = 88 ∧ (j = 19 ∨ j = 20 ∨ j = 21 ∨ j = 22 ∨ j = 23))) from by omega)) (fun j => hGσ9 90 j (show ¬ ((90 = 88 ∧ (j = 19 ∨ j = 20 ∨ j = 21 ∨ j = 22 ∨ j = 23))) from by omega)) (hGσ9 91 0 (show ¬ ((91 = 88 ∧ (0 = 19 ∨ 0 = 20 ∨ 0 = 21 ∨ 0 = 22 ∨ 0 = 23))) from by omega)) hIσ2
  have sσ9 : SR σ9 := SR_kept sσ2 (fun c j h => hGσ9 c j (show ¬ ((c = 88 ∧ (j = 19 ∨ j = 20 ∨ j = 21 ∨ j = 22 ∨ j = 23))) from by omega)) (fun j => hGσ9 104 j (show ¬ ((104 = 88 ∧ (j = 19 ∨ j = 20 ∨ j = 21 ∨ j = 22 ∨ j = 23))) from by omega)) (fun j => hGσ9 105 j (show ¬ ((105 = 88 ∧ (j = 19 ∨ j = 20 ∨ j = 21 ∨ j = 22 ∨ j = 23))) from by omega))
  have tσ9 : TT σ9 := TT_kept tσ2 (fun c j h => hGσ9 c j (show ¬ ((c = 88 ∧ (j = 19 ∨ j = 20 ∨ j = 21 ∨ j = 22 ∨ j = 23))) from by omega)) (fun j h => hGσ9 89 j (show ¬ ((89 = 88 ∧ (j = 19 ∨ j = 20 ∨ j = 21 ∨ j = 22 ∨ j = 23))) from by omega))
  have stσ9 : ST σ9 := ST_F stσ2 (fun c j h => hGσ9 c j (show ¬ ((c = 88 ∧ (j = 19 ∨ j = 20 ∨ j = 21 ∨ j = 22 ∨ j = 23))) from by unfold STR at h; omega))
  refine j_pop2 (pc := 624) dL_law_624 rfl ?_
  refine j_goto (pc := 625) (tgt := 1352) dL_law_625 rfl ?_
  have y13 : σ9 10 10 = τ 10 10 := ((hGσ9 10 10 (show ¬ ((10 = 88 ∧ (10 = 19 ∨ 10 = 20 ∨ 10 = 21 ∨ 10 = 22 ∨ 10 = 23))) from by omega))).trans (hGσ2 10 10 (show ¬ ((10 = 58 ∧ (10 = 2 ∨ 10 = 3))) from by omega))
  have y14 : σ9 88 12 = τ 88 12 := ((hGσ9 88 12 (show ¬ ((88 = 88 ∧ (12 = 19 ∨ 12 = 20 ∨ 12 = 21 ∨ 12 = 22 ∨ 12 = 23))) from by omega))).trans (hGσ2 88 12 (show ¬ ((88 = 58 ∧ (12 = 2 ∨ 12 = 3))) from by omega))
  have f15 : (0 : Int) ≤ τ 88 12 ∧ τ 88 12 ≤ 400 := hIτ 88 12
  have y16 : σ9 0 13 = τ 0 13 := ((hGσ9 0 13 (show ¬ ((0 = 88 ∧ (13 = 19 ∨ 13 = 20 ∨ 13 = 21 ∨ 13 = 22 ∨ 13 = 23))) from by omega))).trans (hGσ2 0 13 (show ¬ ((0 = 58 ∧ (13 = 2 ∨ 13 = 3))) from by omega))
  have f17 : (-2147483648 : Int) ≤ τ 0 13 ∧ τ 0 13 ≤ 2147483647 := hIτ 0 13
  have y18 : σ9 88 17 = τ 88 17 := ((hGσ9 88 17 (show ¬ ((88 = 88 ∧ (17 = 19 ∨ 17 = 20 ∨ 17 = 21 ∨ 17 = 22 ∨ 17 = 23))) from by omega))).trans (hGσ2 88 17 (show ¬ ((88 = 58 ∧ (17 = 2 ∨ 17 = 3))) from by omega))
  have f19 : (0 : Int) ≤ τ 88 17 ∧ τ 88 17 ≤ 5 := hIτ 88 17
  have y20 : σ9 31 6 = τ 31 6 := ((hGσ9 31 6 (show ¬ ((31 = 88 ∧ (6 = 19 ∨ 6 = 20 ∨ 6 = 21 ∨ 6 = 22 ∨ 6 = 23))) from by omega))).trans (hGσ2 31 6 (show ¬ ((31 = 58 ∧ (6 = 2 ∨ 6 = 3))) from by omega))
  have f21 : (0 : Int) ≤ τ 31 6 ∧ τ 31 6 ≤ 1 := hIτ 31 6
  have y22 : σ9 39 6 = τ 39 6 := ((hGσ9 39 6 (show ¬ ((39 = 88 ∧ (6 = 19 ∨ 6 = 20 ∨ 6 = 21 ∨ 6 = 22 ∨ 6 = 23))) from by omega))).trans (hGσ2 39 6 (show ¬ ((39 = 58 ∧ (6 = 2 ∨ 6 = 3))) from by omega))
  have f23 : (0 : Int) ≤ τ 39 6 ∧ τ 39 6 ≤ 1 := hIτ 39 6
  have y24 : σ9 90 0 = τ 90 0 := ((hGσ9 90 0 (show ¬ ((90 = 88 ∧ (0 = 19 ∨ 0 = 20 ∨ 0 = 21 ∨ 0 = 22 ∨ 0 = 23))) from by omega))).trans (hGσ2 90 0 (show ¬ ((90 = 58 ∧ (0 = 2 ∨ 0 = 3))) from by omega))
  have f25 : (0 : Int) ≤ τ 90 0 ∧ τ 90 0 ≤ 1 := hIτ 90 0
  have y26 : σ9 90 1 = τ 90 1 := ((hGσ9 90 1 (show ¬ ((90 = 88 ∧ (1 = 19 ∨ 1 = 20 ∨ 1 = 21 ∨ 1 = 22 ∨ 1 = 23))) from by omega))).trans (hGσ2 90 1 (show ¬ ((90 = 58 ∧ (1 = 2 ∨ 1 = 3))) from by omega))
  have f27 : (0 : Int) ≤ τ 90 1 ∧ τ 90 1 ≤ 1 := hIτ 90 1
  exact K σ9 hIσ9 ⟨mσ9, by omega, sσ9, bσ9, by omega, by omega, by omega, tσ9, stσ9⟩
set_option maxHeartbeats 4000000 in
set_option maxRecDepth 100000 in
theorem w_case_14 {G : tw_G} (hX : tw_isX G) (hM : tw_isM G) {E : List Frame → Array Value → State → State → Prop} (hN : (gN G : Int) ≤ 2560) (i : Int) (hi : 0 ≤ i ∧ i + 5 ≤ (gN G : Int)) (τ : tw_M) (hIτ : tw_I τ) (hL : tw_LI τ) (K : ∀ τ' : tw_M, tw_I τ' → tw_LI τ' → tw_J G tw_ML E 1352 [(0, vR 300), (1, vR 0), (2, vR 88), (3, vI i)] [] τ') : tw_J G tw_ML E 628 [(0, vR 300), (1, vR 0), (2, vR 88), (3, vI i)] [] τ := by
  obtain ⟨mτ, zτ, sτ, bτ, fτ, kτ0, kτ1, tτ, stτ⟩ := hL
  have g9 : (0 : Int) ≤ τ 10 10 ∧ τ 10 10 ≤ 400 := hIτ 10 10
  obtain ⟨v1, ev1⟩ : ∃ v : Int, v = (gxs G (i + 1).toNat).toInt := ⟨_, rfl⟩
  have hv1 : (-2147483648 : Int) ≤ v1 ∧ v1 ≤ 2147483647 := by rw [ev1]; exact i32_in _
  obtain ⟨v2, ev2⟩ : ∃ v : Int, v = (gxs G (i + 2).toNat).toInt := ⟨_, rfl⟩
  have hv2 : (-2147483648 : Int) ≤ v2 ∧ v2 ≤ 2147483647 := by rw [ev2]; exact i32_in _
  obtain ⟨v3, ev3⟩ : ∃ v : Int, v = (gxs G (i + 3).toNat).toInt := ⟨_, rfl⟩
  have hv3 : (-2147483648 : Int) ≤ v3 ∧ v3 ≤ 2147483647 := by rw [ev3]; exact i32_in _
  obtain ⟨v4, ev4⟩ : ∃ v : Int, v = (gxs G (i + 4).toNat).toInt := ⟨_, rfl⟩
  have hv4 : (-2147483648 : Int) ≤ v4 ∧ v4 ≤ 2147483647 := by rw [ev4]; exact i32_in _
  refine j_aload_n (pc := 628) dL_law_628 rfl rfl ?_
  refine j_aload_n (pc := 629) dL_law_629 rfl rfl ?_
  refine j_iload_n (pc := 630) dL_law_630 rfl rfl ?_
  refine j_iconst (pc := 631) dL_law_631 ?_
  refine j_iadd (pc := 632) dL_law_632 ?_
  refine j_scrAt (pc := 633) dL_law_633 (by omega) (by omega) (by omega) ?_
  refine j_topV (show _ = v1 from ev1.symm) ?_
  refine j_callV (pc := 634) (As := [vI v1]) (st := []) (c_X11_risk hX v1 ⟨by omega, by omega⟩ τ hIτ) mv_L_79 rfl rfl rfl (a_0 hX) dL_law_634 ⟨Nat.le_of_ble_eq_true rfl, Nat.le_of_ble_eq_true rfl⟩ ⟨Nat.le_of_ble_eq_true rfl, Nat.le_of_ble_eq_true rfl⟩ rfl (Nat.le_of_ble_eq_true rfl) rfl (fun z1 σ2 hz1 => ?_)
  obtain ⟨r4, rfl, hr4, hIσ2, hGσ2, -⟩ := hz1
  refine j_st (st' := [vI r4]) rfl ?_
  have y5 : σ2 10 10 = τ 10 10 := (hGσ2 10 10 (show ¬ ((56 ≤ 10 ∧ 10 < 58)) from by omega))
  have f6 : (0 : Int) ≤ τ 10 10 ∧ τ 10 10 ≤ 400 := hIτ 10 10
  have bσ2 : BY σ2 := BY_kept bτ (fun j => hGσ2 11 j (show ¬ ((56 ≤ 11 ∧ 11 < 58)) from by omega)) (fun j => hGσ2 98 j (show ¬ ((56 ≤ 98 ∧ 98 < 58)) from by omega)) (by omega)
  have mσ2 : mI σ2 := mI_kept mτ (fun j hj => hGσ2 89 j (show ¬ ((56 ≤ 89 ∧ 89 < 58)) from by omega)) (fun j => hGσ2 90 j (show ¬ ((56 ≤ 90 ∧ 90 < 58)) from by omega)) (hGσ2 91 0 (show ¬ ((56 ≤ 91 ∧ 91 < 58)) from by omega)) hIτ
  have sσ2 : SR σ2 := SR_kept sτ (fun c j h => hGσ2 c j (show ¬ ((56 ≤ c ∧ c < 58)) from by omega)) (fun j => hGσ2 104 j (show ¬ ((56 ≤ 104 ∧ 104 < 58)) from by omega)) (fun j => hGσ2 105 j (show ¬ ((56 ≤ 105 ∧ 105 < 58)) from by omega))
  have tσ2 : TT σ2 := TT_kept tτ (fun c j h => hGσ2 c j (show ¬ ((56 ≤ c ∧ c < 58)) from by omega)) (fun j h => hGσ2 89 j (show ¬ ((56 ≤ 89 ∧ 89 < 58)) from by omega))
  have stσ2 : ST σ2 := ST_F stτ (fun c j h => hGσ2 c j (show ¬ ((56 ≤ c ∧ c < 58)) from by unfold STR at h; omega))
  refine j_pop (pc := 637) dL_law_637 rfl ?_
  refine j_aload_n (pc := 638) dL_law_638 rfl rfl ?_
  refine j_aload_n (pc := 639) dL_law_639 rfl rfl ?_
  refine j_iload_n (pc := 640) dL_law_640 rfl rfl ?_
  refine j_iconst (pc := 641) dL_law_641 ?_
  refine j_iadd (pc := 642) dL_law_642 ?_
  refine j_scrAt (pc := 643) dL_law_643 (by omega) (by omega) (by omega) ?_
  refine j_topV (show _ = v1 from ev1.symm) ?_
  refine j_callV (pc := 644) (As := [vI v1]) (st := []) (c_X12_risk hM v1 ⟨by omega, by omega⟩ σ2 hIσ2) mv_L_82 rfl rfl rfl (a_88 hM) dL_law_644 ⟨Nat.le_of_ble_eq_true rfl, Nat.le_of_ble_eq_true rfl⟩ ⟨Nat.le_of_ble_eq_true rfl, Nat.le_of_ble_eq_true rfl⟩ rfl (Nat.le_of_ble_eq_true rfl) rfl (fun z7 σ8 hz7 => ?_)
  obtain ⟨r10, rfl, hr10, hIσ8, hGσ8, -⟩ := hz7
  refine j_st (st' := [vI r10]) rfl ?_
  have y11 : σ8 10 10 = τ 10 10 := ((hGσ8 10 10 (show ¬ ((10 = 88 ∧ (10 = 19 ∨ 10 = 20 ∨ 10 = 21 ∨ 10 = 22 ∨ 10 = 23 ∨ 10 = 24 ∨ 10 = 25))) from by omega))).trans (hGσ2 10 10 (show ¬ ((56 ≤ 10 ∧ 10 < 58)) from by omega))
  have bσ8 : BY σ8 := BY_kept bσ2 (fun j => hGσ8 11 j (show ¬ ((11 = 88 ∧ (j = 19 ∨ j = 20 ∨ j = 21 ∨ j = 22 ∨ j = 23 ∨ j = 24 ∨ j = 25))) from by omega)) (fun j => hGσ8 98 j (show ¬ ((98 = 88 ∧ (j = 19 ∨ j = 20 ∨ j = 21 ∨ j = 22 ∨ j = 23 ∨ j = 24 ∨ j = 25))) from by omega)) (by omega)
  have mσ8 : mI σ8 := mI_kept mσ2 (fun j hj => hGσ8 89 j (show ¬ ((89 = 88 ∧ (j = 19 ∨ j = 20 ∨ j = 21 ∨ j = 22 ∨ j = 23 ∨ j = 24 ∨ j = 25))) from by omega)) (fun j => hGσ8 90 j (show ¬ ((90 = 88 ∧ (j = 19 ∨ j = 20 ∨ j = 21 ∨ j = 22 ∨ j = 23 ∨ j = 24 ∨ j = 25))) from by omega)) (hGσ8 91 0 (show ¬ ((91 = 88 ∧ (0 = 19 ∨ 0 = 20 ∨ 0 = 21 ∨ 0 = 22 ∨ 0 = 23 ∨ 0 = 24 ∨ 0 = 25))) from by omega)) hIσ2
  have sσ8 : SR σ8 := SR_kept sσ2 (fun c j h => hGσ8 c j (show ¬ ((c = 88 ∧ (j = 19 ∨ j = 20 ∨ j = 21 ∨ j = 22 ∨ j = 23 ∨ j = 24 ∨ j = 25))) from by omega)) (fun j => hGσ8 104 j (show ¬ ((104 = 88 ∧ (j = 19 ∨ j = 20 ∨ j = 21 ∨ j = 22 ∨ j = 23 ∨ j = 24 ∨ j = 25))) from by omega)) (fun j => hGσ8 105 j (show ¬ ((105 = 88 ∧ (j = 19 ∨ j = 20 ∨ j = 21 ∨ j = 22 ∨ j = 23 ∨ j = 24 ∨ j = 25))) from by omega))
  have tσ8 : TT σ8 := TT_kept tσ2 (fun c j h => hGσ8 c j (show ¬ ((c = 88 ∧ (j = 19 ∨ j = 20 ∨ j = 21 ∨ j = 22 ∨ j = 23 ∨ j = 24 ∨ j = 25))) from by omega)) (fun j h => hGσ8 89 j (show ¬ ((89 = 88 ∧ (j = 19 ∨ j = 20 ∨ j = 21 ∨ j = 22 ∨ j = 23 ∨ j = 24 ∨ j = 25))) from by omega))
  have stσ8 : ST σ8 := ST_F stσ2 (fun c j h => hGσ8 c j (show ¬ ((c = 88 ∧ (j = 19 ∨ j = 20 ∨ j = 21 ∨ j = 22 ∨ j = 23 ∨ j = 24 ∨ j = 25))) from by unfold STR at h; omega))
  refine j_pop (pc := 647) dL_law_647 rfl ?_
  refine j_goto (pc := 648) (tgt := 1352) dL_law_648 rfl ?_
  have y12 : σ8 10 10 = τ 10 10 := ((hGσ8 10 10 (show ¬ ((10 = 88 ∧ (10 = 19 ∨ 10 = 20 ∨ 10 = 21 ∨ 10 = 22 ∨ 10 = 23 ∨ 10 = 24 ∨ 10 = 25))) from by omega))).trans (hGσ2 10 10 (show ¬ ((56 ≤ 10 ∧ 10 < 58)) from by omega))
  have y13 : σ8 88 12 = τ 88 12 := ((hGσ8 88 12 (show ¬ ((88 = 88 ∧ (12 = 19 ∨ 12 = 20 ∨ 12 = 21 ∨ 12 = 22 ∨ 12 = 23 ∨ 12 = 24 ∨ 12 = 25))) from by omega))).trans (hGσ2 88 12 (show ¬ ((56 ≤ 88 ∧ 88 < 58)) from by omega))
  have f14 : (0 : Int) ≤ τ 88 12 ∧ τ 88 12 ≤ 400 := hIτ 88 12
  have y15 : σ8 0 13 = τ 0 13 := ((hGσ8 0 13 (show ¬ ((0 = 88 ∧ (13 = 19 ∨ 13 = 20 ∨ 13 = 21 ∨ 13 = 22 ∨ 13 = 23 ∨ 13 = 24 ∨ 13 = 25))) from by omega))).trans (hGσ2 0 13 (show ¬ ((56 ≤ 0 ∧ 0 < 58)) from by omega))
  have f16 : (-2147483648 : Int) ≤ τ 0 13 ∧ τ 0 13 ≤ 2147483647 := hIτ 0 13
  have y17 : σ8 88 17 = τ 88 17 := ((hGσ8 88 17 (show ¬ ((88 = 88 ∧ (17 = 19 ∨ 17 = 20 ∨ 17 = 21 ∨ 17 = 22 ∨ 17 = 23 ∨ 17 = 24 ∨ 17 = 25))) from by omega))).trans (hGσ2 88 17 (show ¬ ((56 ≤ 88 ∧ 88 < 58)) from by omega))
  have f18 : (0 : Int) ≤ τ 88 17 ∧ τ 88 17 ≤ 5 := hIτ 88 17
  have y19 : σ8 31 6 = τ 31 6 := ((hGσ8 31 6 (show ¬ ((31 = 88 ∧ (6 = 19 ∨ 6 = 20 ∨ 6 = 21 ∨ 6 = 22 ∨ 6 = 23 ∨ 6 = 24 ∨ 6 = 25))) from by omega))).trans (hGσ2 31 6 (show ¬ ((56 ≤ 31 ∧ 31 < 58)) from by omega))
  have f20 : (0 : Int) ≤ τ 31 6 ∧ τ 31 6 ≤ 1 := hIτ 31 6
  have y21 : σ8 39 6 = τ 39 6 := ((hGσ8 39 6 (show ¬ ((39 = 88 ∧ (6 = 19 ∨ 6 = 20 ∨ 6 = 21 ∨ 6 = 22 ∨ 6 = 23 ∨ 6 = 24 ∨ 6 = 25))) from by omega))).trans (hGσ2 39 6 (show ¬ ((56 ≤ 39 ∧ 39 < 58)) from by omega))
  have f22 : (0 : Int) ≤ τ 39 6 ∧ τ 39 6 ≤ 1 := hIτ 39 6
  have y23 : σ8 90 0 = τ 90 0 := ((hGσ8 90 0 (show ¬ ((90 = 88 ∧ (0 = 19 ∨ 0 = 20 ∨ 0 = 21 ∨ 0 = 22 ∨ 0 = 23 ∨ 0 = 24 ∨ 0 = 25))) from by omega))).trans (hGσ2 90 0 (show ¬ ((56 ≤ 90 ∧ 90 < 58)) from by omega))
  have f24 : (0 : Int) ≤ τ 90 0 ∧ τ 90 0 ≤ 1 := hIτ 90 0
  have y25 : σ8 90 1 = τ 90 1 := ((hGσ8 90 1 (show ¬ ((90 = 88 ∧ (1 = 19 ∨ 1 = 20 ∨ 1 = 21 ∨ 1 = 22 ∨ 1 = 23 ∨ 1 = 24 ∨ 1 = 25))) from by omega))).trans (hGσ2 90 1 (show ¬ ((56 ≤ 90 ∧ 90 < 58)) from by omega))
  have f26 : (0 : Int) ≤ τ 90 1 ∧ τ 90 1 ≤ 1 := hIτ 90 1
  exact K σ8 hIσ8 ⟨mσ8, by omega, sσ8, bσ8, by omega, by omega, by omega, tσ8, stσ8⟩
set_option maxHeartbeats 4000000 in
set_option maxRecDepth 100000 in
theorem w_case_15 {G : tw_G} (hX : tw_isX G) (hM : tw_isM G) {E : List Frame → Array Value → State → State → Prop} (hN : (gN G : Int) ≤ 2560) (i : Int) (hi : 0 ≤ i ∧ i + 5 ≤ (gN G : Int)) (τ : tw_M) (hIτ : tw_I τ) (hL : tw_LI τ) (K : ∀ τ' : tw_M, tw_I τ' → tw_LI τ' → tw_J G tw_ML E 1352 [(0, vR 300), (1, vR 0), (2, vR 88), (3, vI i)] [] τ') : tw_J G tw_ML E 651 [(0, vR 300), (1, vR 0), (2, vR 88), (3, vI i)] [] τ := by
  obtain ⟨mτ, zτ, sτ, bτ, fτ, kτ0, kτ1, tτ, stτ⟩ := hL
  have g9 : (0 : Int) ≤ τ 10 10 ∧ τ 10 10 ≤ 400 := hIτ 10 10
  obtain ⟨v1, ev1⟩ : ∃ v : Int, v = (gxs G (i + 1).toNat).toInt := ⟨_, rfl⟩
  have hv1 : (-2147483648 : Int) ≤ v1 ∧ v1 ≤ 2147483647 := by rw [ev1]; exact i32_in _
  obtain ⟨v2, ev2⟩ : ∃ v : Int, v = (gxs G (i + 2).toNat).toInt := ⟨_, rfl⟩
  have hv2 : (-2147483648 : Int) ≤ v2 ∧ v2 ≤ 2147483647 := by rw [ev2]; exact i32_in _
  obtain ⟨v3, ev3⟩ : ∃ v : Int, v = (gxs G (i + 3).toNat).toInt := ⟨_, rfl⟩
  have hv3 : (-2147483648 : Int) ≤ v3 ∧ v3 ≤ 2147483647 := by rw [ev3]; exact i32_in _
  obtain ⟨v4, ev4⟩ : ∃ v : Int, v = (gxs G (i + 4).toNat).toInt := ⟨_, rfl⟩
  have hv4 : (-2147483648 : Int) ≤ v4 ∧ v4 ≤ 2147483647 := by rw [ev4]; exact i32_in _
  refine j_aload_n (pc := 651) dL_law_651 rfl rfl ?_
  refine j_callV (pc := 652) (As := []) (st := []) (c_X11_needless hX τ hIτ) mv_L_83 rfl rfl rfl (a_0 hX) dL_law_652 ⟨Nat.le_of_ble_eq_true rfl, Nat.le_of_ble_eq_true rfl⟩ ⟨Nat.le_of_ble_eq_true rfl, Nat.le_of_ble_eq_true rfl⟩ rfl (Nat.le_of_ble_eq_true rfl) rfl (fun z1 σ2 hz1 => ?_)
  obtain ⟨r4, rfl, hr4, hIσ2, hGσ2, -⟩ := hz1
  refine j_st (st' := [vI r4]) rfl ?_
  have y5 : σ2 10 10 = τ 10 10 := (hGσ2 10 10 (show ¬ ((56 ≤ 10 ∧ 10 < 58)) from by omega))
  have f6 : (0 : Int) ≤ τ 10 10 ∧ τ 10 10 ≤ 400 := hIτ 10 10
  have bσ2 : BY σ2 := BY_kept bτ (fun j => hGσ2 11 j (show ¬ ((56 ≤ 11 ∧ 11 < 58)) from by omega)) (fun j => hGσ2 98 j (show ¬ ((56 ≤ 98 ∧ 98 < 58)) from by omega)) (by omega)
  have mσ2 : mI σ2 := mI_kept mτ (fun j hj => hGσ2 89 j (show ¬ ((56 ≤ 89 ∧ 89 < 58)) from by omega)) (fun j => hGσ2 90 j (show ¬ ((56 ≤ 90 ∧ 90 < 58)) from by omega)) (hGσ2 91 0 (show ¬ ((56 ≤ 91 ∧ 91 < 58)) from by omega)) hIτ
  have sσ2 : SR σ2 := SR_kept sτ (fun c j h => hGσ2 c j (show ¬ ((56 ≤ c ∧ c < 58)) from by omega)) (fun j => hGσ2 104 j (show ¬ ((56 ≤ 104 ∧ 104 < 58)) from by omega)) (fun j => hGσ2 105 j (show ¬ ((56 ≤ 105 ∧ 105 < 58)) from by omega))
  have tσ2 : TT σ2 := TT_kept tτ (fun c j h => hGσ2 c j (show ¬ ((56 ≤ c ∧ c < 58)) from by omega)) (fun j h => hGσ2 89 j (show ¬ ((56 ≤ 89 ∧ 89 < 58)) from by omega))
  have stσ2 : ST σ2 := ST_F stτ (fun c j h => hGσ2 c j (show ¬ ((56 ≤ c ∧ c < 58)) from by unfold STR at h; omega))
  refine j_pop (pc := 655) dL_law_655 rfl ?_
  refine j_aload_n (pc := 656) dL_law_656 rfl rfl ?_
  refine j_callV (pc := 657) (As := []) (st := []) (c_X12_needless hM σ2 hIσ2) mv_L_86 rfl rfl rfl (a_88 hM) dL_law_657 ⟨Nat.le_of_ble_eq_true rfl, Nat.le_of_ble_eq_true rfl⟩ ⟨Nat.le_of_ble_eq_true rfl, Nat.le_of_ble_eq_true rfl⟩ rfl (Nat.le_of_ble_eq_true rfl) rfl (fun z7 σ8 hz7 => ?_)
  obtain ⟨r10, rfl, hr10, hIσ8, hGσ8, -⟩ := hz7
  refine j_st (st' := [vI r10]) rfl ?_
  have y11 : σ8 10 10 = τ 10 10 := ((hGσ8 10 10 (show ¬ ((10 = 88 ∧ (10 = 19 ∨ 10 = 20 ∨ 10 = 21 ∨ 10 = 22 ∨ 10 = 23)) ∨ (10 = 89 ∧ 300 ≤ 10)) from by omega))).trans (hGσ2 10 10 (show ¬ ((56 ≤ 10 ∧ 10 < 58)) from by omega))
  have bσ8 : BY σ8 := BY_kept bσ2 (fun j => hGσ8 11 j (show ¬ ((11 = 88 ∧ (j = 19 ∨ j = 20 ∨ j = 21 ∨ j = 22 ∨ j = 23)) ∨ (11 = 89 ∧ 300 ≤ j)) from by omega)) (fun j => hGσ8 98 j (show ¬ ((98 = 88 ∧ (j = 19 ∨ j = 20 ∨ j = 21 ∨ j = 22 ∨ j = 23)) ∨ (98 = 89 ∧ 300 ≤ j)) from by omega)) (by omega)
  have mσ8 : mI σ8 := mI_kept mσ2 (fun j hj => hGσ8 89 j (show ¬ ((89 = 88 ∧ (j = 19 ∨ j = 20 ∨ j = 21 ∨ j = 22 ∨ j = 23)) ∨ (89 = 89 ∧ 300 ≤ j)) from by omega)) (fun j => hGσ8 90 j (show ¬ ((90 = 88 ∧ (j = 19 ∨ j = 20 ∨ j = 21 ∨ j = 22 ∨ j = 23)) ∨ (90 = 89 ∧ 300 ≤ j)) from by omega)) (hGσ8 91 0 (show ¬ ((91 = 88 ∧ (0 = 19 ∨ 0 = 20 ∨ 0 = 21 ∨ 0 = 22 ∨ 0 = 23)) ∨ (91 = 89 ∧ 300 ≤ 0)) from by omega)) hIσ2
  have sσ8 : SR σ8 := SR_kept sσ2 (fun c j h => hGσ8 c j (show ¬ ((c = 88 ∧ (j = 19 ∨ j = 20 ∨ j = 21 ∨ j = 22 ∨ j = 23)) ∨ (c = 89 ∧ 300 ≤ j)) from by omega)) (fun j => hGσ8 104 j (show ¬ ((104 = 88 ∧ (j = 19 ∨ j = 20 ∨ j = 21 ∨ j = 22 ∨ j = 23)) ∨ (104 = 89 ∧ 300 ≤ j)) from by omega)) (fun j => hGσ8 105 j (show ¬ ((105 = 88 ∧ (j = 19 ∨ j = 20 ∨ j = 21 ∨ j = 22 ∨ j = 23)) ∨ (105 = 89 ∧ 300 ≤ j)) from by omega))
  have tσ8 : TT σ8 := TT_kept tσ2 (fun c j h => hGσ8 c j (show ¬ ((c = 88 ∧ (j = 19 ∨ j = 20 ∨ j = 21 ∨ j = 22 ∨ j = 23)) ∨ (c = 89 ∧ 300 ≤ j)) from by omega)) (fun j h => hGσ8 89 j (show ¬ ((89 = 88 ∧ (j = 19 ∨ j = 20 ∨ j = 21 ∨ j = 22 ∨ j = 23)) ∨ (89 = 89 ∧ 300 ≤ j)) from by omega))
  have stσ8 : ST σ8 := ST_F stσ2 (fun c j h => hGσ8 c j (show ¬ ((c = 88 ∧ (j = 19 ∨ j = 20 ∨ j = 21 ∨ j = 22 ∨ j = 23)) ∨ (c = 89 ∧ 300 ≤ j)) from by unfold STR at h; omega))
  refine j_pop (pc := 660) dL_law_660 rfl ?_
  refine j_goto (pc := 661) (tgt := 1352) dL_law_661 rfl ?_
  have y12 : σ8 10 10 = τ 10 10 := ((hGσ8 10 10 (show ¬ ((10 = 88 ∧ (10 = 19 ∨ 10 = 20 ∨ 10 = 21 ∨ 10 = 22 ∨ 10 = 23)) ∨ (10 = 89 ∧ 300 ≤ 10)) from by omega))).trans (hGσ2 10 10 (show ¬ ((56 ≤ 10 ∧ 10 < 58)) from by omega))
  have y13 : σ8 88 12 = τ 88 12 := ((hGσ8 88 12 (show ¬ ((88 = 88 ∧ (12 = 19 ∨ 12 = 20 ∨ 12 = 21 ∨ 12 = 22 ∨ 12 = 23)) ∨ (88 = 89 ∧ 300 ≤ 12)) from by omega))).trans (hGσ2 88 12 (show ¬ ((56 ≤ 88 ∧ 88 < 58)) from by omega))
  have f14 : (0 : Int) ≤ τ 88 12 ∧ τ 88 12 ≤ 400 := hIτ 88 12
  have y15 : σ8 0 13 = τ 0 13 := ((hGσ8 0 13 (show ¬ ((0 = 88 ∧ (13 = 19 ∨ 13 = 20 ∨ 13 = 21 ∨ 13 = 22 ∨ 13 = 23)) ∨ (0 = 89 ∧ 300 ≤ 13)) from by omega))).trans (hGσ2 0 13 (show ¬ ((56 ≤ 0 ∧ 0 < 58)) from by omega))
  have f16 : (-2147483648 : Int) ≤ τ 0 13 ∧ τ 0 13 ≤ 2147483647 := hIτ 0 13
  have y17 : σ8 88 17 = τ 88 17 := ((hGσ8 88 17 (show ¬ ((88 = 88 ∧ (17 = 19 ∨ 17 = 20 ∨ 17 = 21 ∨ 17 = 22 ∨ 17 = 23)) ∨ (88 = 89 ∧ 300 ≤ 17)) from by omega))).trans (hGσ2 88 17 (show ¬ ((56 ≤ 88 ∧ 88 < 58)) from by omega))
  have f18 : (0 : Int) ≤ τ 88 17 ∧ τ 88 17 ≤ 5 := hIτ 88 17
  have y19 : σ8 31 6 = τ 31 6 := ((hGσ8 31 6 (show ¬ ((31 = 88 ∧ (6 = 19 ∨ 6 = 20 ∨ 6 = 21 ∨ 6 = 22 ∨ 6 = 23)) ∨ (31 = 89 ∧ 300 ≤ 6)) from by omega))).trans (hGσ2 31 6 (show ¬ ((56 ≤ 31 ∧ 31 < 58)) from by omega))
  have f20 : (0 : Int) ≤ τ 31 6 ∧ τ 31 6 ≤ 1 := hIτ 31 6
  have y21 : σ8 39 6 = τ 39 6 := ((hGσ8 39 6 (show ¬ ((39 = 88 ∧ (6 = 19 ∨ 6 = 20 ∨ 6 = 21 ∨ 6 = 22 ∨ 6 = 23)) ∨ (39 = 89 ∧ 300 ≤ 6)) from by omega))).trans (hGσ2 39 6 (show ¬ ((56 ≤ 39 ∧ 39 < 58)) from by omega))
  have f22 : (0 : Int) ≤ τ 39 6 ∧ τ 39 6 ≤ 1 := hIτ 39 6
  have y23 : σ8 90 0 = τ 90 0 := ((hGσ8 90 0 (show ¬ ((90 = 88 ∧ (0 = 19 ∨ 0 = 20 ∨ 0 = 21 ∨ 0 = 22 ∨ 0 = 23)) ∨ (90 = 89 ∧ 300 ≤ 0)) from by omega))).trans (hGσ2 90 0 (show ¬ ((56 ≤ 90 ∧ 90 < 58)) from by omega))
  have f24 : (0 : Int) ≤ τ 90 0 ∧ τ 90 0 ≤ 1 := hIτ 90 0
  have y25 : σ8 90 1 = τ 90 1 := ((hGσ8 90 1 (show ¬ ((90 = 88 ∧ (1 = 19 ∨ 1 = 20 ∨ 1 = 21 ∨ 1 = 22 ∨ 1 = 23)) ∨ (90 = 89 ∧ 300 ≤ 1)) from by omega))).trans (hGσ2 90 1 (show ¬ ((56 ≤ 90 ∧ 90 < 58)) from by omega))
  have f26 : (0 : Int) ≤ τ 90 1 ∧ τ 90 1 ≤ 1 := hIτ 90 1
  exact K σ8 hIσ8 ⟨mσ8, by omega, sσ8, bσ8, by omega, by omega, by omega, tσ8, stσ8⟩
set_option maxHeartbeats 4000000 in
set_option maxRecDepth 100000 in
theorem w_case_16 {G : tw_G} (hX : tw_isX G) (hM : tw_isM G) {E : List Frame → Array Value → State → State → Prop} (hN : (gN G : Int) ≤ 2560) (i : Int) (hi : 0 ≤ i ∧ i + 5 ≤ (gN G : Int)) (τ : tw_M) (hIτ : tw_I τ) (hL : tw_LI τ) (K : ∀ τ' : tw_M, tw_I τ' → tw_LI τ' → tw_J G tw_ML E 1352 [(0, vR 300), (1, vR 0), (2, vR 88), (3, vI i)] [] τ') : tw_J G tw_ML E 664 [(0, vR 300), (1, vR 0), (2, vR 88), (3, vI i)] [] τ := by
  obtain ⟨mτ, zτ, sτ, bτ, fτ, kτ0, kτ1, tτ, stτ⟩ := hL
  have g9 : (0 : Int) ≤ τ 10 10 ∧ τ 10 10 ≤ 400 := hIτ 10 10
  obtain ⟨v1, ev1⟩ : ∃ v : Int, v = (gxs G (i + 1).toNat).toInt := ⟨_, rfl⟩
  have hv1 : (-2147483648 : Int) ≤ v1 ∧ v1 ≤ 2147483647 := by rw [ev1]; exact i32_in _
  obtain ⟨v2, ev2⟩ : ∃ v : Int, v = (gxs G (i + 2).toNat).toInt := ⟨_, rfl⟩
  have hv2 : (-2147483648 : Int) ≤ v2 ∧ v2 ≤ 2147483647 := by rw [ev2]; exact i32_in _
  obtain ⟨v3, ev3⟩ : ∃ v : Int, v = (gxs G (i + 3).toNat).toInt := ⟨_, rfl⟩
  have hv3 : (-2147483648 : Int) ≤ v3 ∧ v3 ≤ 2147483647 := by rw [ev3]; exact i32_in _
  obtain ⟨v4, ev4⟩ : ∃ v : Int, v = (gxs G (i + 4).toNat).toInt := ⟨_, rfl⟩
  have hv4 : (-2147483648 : Int) ≤ v4 ∧ v4 ≤ 2147483647 := by rw [ev4]; exact i32_in _
  refine j_aload_n (pc := 664) dL_law_664 rfl rfl ?_
  refine j_aload_n (pc := 665) dL_law_665 rfl rfl ?_
  refine j_iload_n (pc := 666) dL_law_666 rfl rfl ?_
  refine j_iconst (pc := 667) dL_law_667 ?_
  refine j_iadd (pc := 668) dL_law_668 ?_
  refine j_scrAt (pc := 669) dL_law_669 (by omega) (by omega) (by omega) ?_
  refine j_topV (show _ = v1 from ev1.symm) ?_
  refine j_callV (pc := 670) (As := [vI v1]) (st := []) (c_X11_plan hX v1 ⟨by omega, by omega⟩ τ hIτ) mv_L_87 rfl rfl rfl (a_0 hX) dL_law_670 ⟨Nat.le_of_ble_eq_true rfl, Nat.le_of_ble_eq_true rfl⟩ ⟨Nat.le_of_ble_eq_true rfl, Nat.le_of_ble_eq_true rfl⟩ rfl (Nat.le_of_ble_eq_true rfl) rfl (fun z1 σ2 hz1 => ?_)
  obtain ⟨r4, rfl, hr4, hIσ2, hGσ2, q3_0⟩ := hz1
  replace q3_0 : ∀ rk : Nat → Int, WOK (wW 1 τ) → (∀ s : Int, 1 ≤ s → s ≤ 10 → τ 3 s.toNat = rk s.toNat) → (¬ τ 60 6 = 0 → PLN (wW 1 τ) rk τ) → ¬ σ2 60 6 = 0 → PLN (wW 1 τ) rk σ2 := q3_0
  refine j_st (st' := [vI r4]) rfl ?_
  have y5 : σ2 10 10 = τ 10 10 := (hGσ2 10 10 (show ¬ ((56 ≤ 10 ∧ 10 < 58) ∨ (10 = 60 ∧ (10 = 5 ∨ 10 = 6 ∨ 10 = 8 ∨ 10 = 10 ∨ 10 = 11)) ∨ (61 ≤ 10 ∧ 10 < 71)) from by omega))
  have f6 : (0 : Int) ≤ τ 10 10 ∧ τ 10 10 ≤ 400 := hIτ 10 10
  have bσ2 : BY σ2 := BY_kept bτ (fun j => hGσ2 11 j (show ¬ ((56 ≤ 11 ∧ 11 < 58) ∨ (11 = 60 ∧ (j = 5 ∨ j = 6 ∨ j = 8 ∨ j = 10 ∨ j = 11)) ∨ (61 ≤ 11 ∧ 11 < 71)) from by omega)) (fun j => hGσ2 98 j (show ¬ ((56 ≤ 98 ∧ 98 < 58) ∨ (98 = 60 ∧ (j = 5 ∨ j = 6 ∨ j = 8 ∨ j = 10 ∨ j = 11)) ∨ (61 ≤ 98 ∧ 98 < 71)) from by omega)) (by omega)
  have mσ2 : mI σ2 := mI_kept mτ (fun j hj => hGσ2 89 j (show ¬ ((56 ≤ 89 ∧ 89 < 58) ∨ (89 = 60 ∧ (j = 5 ∨ j = 6 ∨ j = 8 ∨ j = 10 ∨ j = 11)) ∨ (61 ≤ 89 ∧ 89 < 71)) from by omega)) (fun j => hGσ2 90 j (show ¬ ((56 ≤ 90 ∧ 90 < 58) ∨ (90 = 60 ∧ (j = 5 ∨ j = 6 ∨ j = 8 ∨ j = 10 ∨ j = 11)) ∨ (61 ≤ 90 ∧ 90 < 71)) from by omega)) (hGσ2 91 0 (show ¬ ((56 ≤ 91 ∧ 91 < 58) ∨ (91 = 60 ∧ (0 = 5 ∨ 0 = 6 ∨ 0 = 8 ∨ 0 = 10 ∨ 0 = 11)) ∨ (61 ≤ 91 ∧ 91 < 71)) from by omega)) hIτ
  have sσ2 : SR σ2 := SR_kept sτ (fun c j h => hGσ2 c j (show ¬ ((56 ≤ c ∧ c < 58) ∨ (c = 60 ∧ (j = 5 ∨ j = 6 ∨ j = 8 ∨ j = 10 ∨ j = 11)) ∨ (61 ≤ c ∧ c < 71)) from by omega)) (fun j => hGσ2 104 j (show ¬ ((56 ≤ 104 ∧ 104 < 58) ∨ (104 = 60 ∧ (j = 5 ∨ j = 6 ∨ j = 8 ∨ j = 10 ∨ j = 11)) ∨ (61 ≤ 104 ∧ 104 < 71)) from by omega)) (fun j => hGσ2 105 j (show ¬ ((56 ≤ 105 ∧ 105 < 58) ∨ (105 = 60 ∧ (j = 5 ∨ j = 6 ∨ j = 8 ∨ j = 10 ∨ j = 11)) ∨ (61 ≤ 105 ∧ 105 < 71)) from by omega))
  have tσ2 : TT σ2 := TT_kept tτ (fun c j h => hGσ2 c j (show ¬ ((56 ≤ c ∧ c < 58) ∨ (c = 60 ∧ (j = 5 ∨ j = 6 ∨ j = 8 ∨ j = 10 ∨ j = 11)) ∨ (61 ≤ c ∧ c < 71)) from by omega)) (fun j h => hGσ2 89 j (show ¬ ((56 ≤ 89 ∧ 89 < 58) ∨ (89 = 60 ∧ (j = 5 ∨ j = 6 ∨ j = 8 ∨ j = 10 ∨ j = 11)) ∨ (61 ≤ 89 ∧ 89 < 71)) from by omega))
  have stσ2 : ST σ2 := ST_P stτ (fun c j h => hGσ2 c j (show ¬ ((56 ≤ c ∧ c < 58) ∨ (c = 60 ∧ (j = 5 ∨ j = 6 ∨ j = 8 ∨ j = 10 ∨ j = 11)) ∨ (61 ≤ c ∧ c < 71)) from by unfold STR at h; omega)) (fun f nz => by rw [← stτ.1] at f ⊢; exact q3_0 (τ 3) (by rw [stτ.1]; exact WOK_M hIτ) (fun s _ _ => rfl) f nz)
  clear q3_0
  refine j_pop (pc := 673) dL_law_673 rfl ?_
  refine j_aload_n (pc := 674) dL_law_674 rfl rfl ?_
  refine j_aload_n (pc := 675) dL_law_675 rfl rfl ?_
  refine j_iload_n (pc := 676) dL_law_676 rfl rfl ?_
  refine j_iconst (pc := 677) dL_law_677 ?_
  refine j_iadd (pc := 678) dL_law_678 ?_
  refine j_scrAt (pc := 679) dL_law_679 (by omega) (by omega) (by omega) ?_
  refine j_topV (show _ = v1 from ev1.symm) ?_
  refine j_callV (pc := 680) (As := [vI v1]) (st := []) (c_X12_plan hM v1 ⟨by omega, by omega⟩ σ2 hIσ2) mv_L_90 rfl rfl rfl (a_88 hM) dL_law_680 ⟨Nat.le_of_ble_eq_true rfl, Nat.le_of_ble_eq_true rfl⟩ ⟨Nat.le_of_ble_eq_true rfl, Nat.le_of_ble_eq_true rfl⟩ rfl (Nat.le_of_ble_eq_true rfl) rfl (fun z7 σ8 hz7 => ?_)
  obtain ⟨r10, rfl, hr10, hIσ8, hGσ8, -⟩ := hz7
  refine j_st (st' := [vI r10]) rfl ?_
  have y11 : σ8 10 10 = τ 10 10 := ((hGσ8 10 10 (show ¬ ((10 = 88 ∧ (10 = 19 ∨ 10 = 20 ∨ 10 = 21 ∨ 10 = 22 ∨ 10 = 23 ∨ 10 = 24 ∨ 10 = 25 ∨ 10 = 26 ∨ 10 = 27)) ∨ (10 = 89 ∧ 300 ≤ 10)) from by omega))).trans (hGσ2 10 10 (show ¬ ((56 ≤ 10 ∧ 10 < 58) ∨ (10 = 60 ∧ (10 = 5 ∨ 10 = 6 ∨ 10 = 8 ∨ 10 = 10 ∨ 10 = 11)) ∨ (61 ≤ 10 ∧ 10 < 71)) from by omega))
  have bσ8 : BY σ8 := BY_kept bσ2 (fun j => hGσ8 11 j (show ¬ ((11 = 88 ∧ (j = 19 ∨ j = 20 ∨ j = 21 ∨ j = 22 ∨ j = 23 ∨ j = 24 ∨ j = 25 ∨ j = 26 ∨ j = 27)) ∨ (11 = 89 ∧ 300 ≤ j)) from by omega)) (fun j => hGσ8 98 j (show ¬ ((98 = 88 ∧ (j = 19 ∨ j = 20 ∨ j = 21 ∨ j = 22 ∨ j = 23 ∨ j = 24 ∨ j = 25 ∨ j = 26 ∨ j = 27)) ∨ (98 = 89 ∧ 300 ≤ j)) from by omega)) (by omega)
  have mσ8 : mI σ8 := mI_kept mσ2 (fun j hj => hGσ8 89 j (show ¬ ((89 = 88 ∧ (j = 19 ∨ j = 20 ∨ j = 21 ∨ j = 22 ∨ j = 23 ∨ j = 24 ∨ j = 25 ∨ j = 26 ∨ j = 27)) ∨ (89 = 89 ∧ 300 ≤ j)) from by omega)) (fun j => hGσ8 90 j (show ¬ ((90 = 88 ∧ (j = 19 ∨ j = 20 ∨ j = 21 ∨ j = 22 ∨ j = 23 ∨ j = 24 ∨ j = 25 ∨ j = 26 ∨ j = 27)) ∨ (90 = 89 ∧ 300 ≤ j)) from by omega)) (hGσ8 91 0 (show ¬ ((91 = 88 ∧ (0 = 19 ∨ 0 = 20 ∨ 0 = 21 ∨ 0 = 22 ∨ 0 = 23 ∨ 0 = 24 ∨ 0 = 25 ∨ 0 = 26 ∨ 0 = 27)) ∨ (91 = 89 ∧ 300 ≤ 0)) from by omega)) hIσ2
  have sσ8 : SR σ8 := SR_kept sσ2 (fun c j h => hGσ8 c j (show ¬ ((c = 88 ∧ (j = 19 ∨ j = 20 ∨ j = 21 ∨ j = 22 ∨ j = 23 ∨ j = 24 ∨ j = 25 ∨ j = 26 ∨ j = 27)) ∨ (c = 89 ∧ 300 ≤ j)) from by omega)) (fun j => hGσ8 104 j (show ¬ ((104 = 88 ∧ (j = 19 ∨ j = 20 ∨ j = 21 ∨ j = 22 ∨ j = 23 ∨ j = 24 ∨ j = 25 ∨ j = 26 ∨ j = 27)) ∨ (104 = 89 ∧ 300 ≤ j)) from by omega)) (fun j => hGσ8 105 j (show ¬ ((105 = 88 ∧ (j = 19 ∨ j = 20 ∨ j = 21 ∨ j = 22 ∨ j = 23 ∨ j = 24 ∨ j = 25 ∨ j = 26 ∨ j = 27)) ∨ (105 = 89 ∧ 300 ≤ j)) from by omega))
  have tσ8 : TT σ8 := TT_kept tσ2 (fun c j h => hGσ8 c j (show ¬ ((c = 88 ∧ (j = 19 ∨ j = 20 ∨ j = 21 ∨ j = 22 ∨ j = 23 ∨ j = 24 ∨ j = 25 ∨ j = 26 ∨ j = 27)) ∨ (c = 89 ∧ 300 ≤ j)) from by omega)) (fun j h => hGσ8 89 j (show ¬ ((89 = 88 ∧ (j = 19 ∨ j = 20 ∨ j = 21 ∨ j = 22 ∨ j = 23 ∨ j = 24 ∨ j = 25 ∨ j = 26 ∨ j = 27)) ∨ (89 = 89 ∧ 300 ≤ j)) from by omega))
  have stσ8 : ST σ8 := ST_F stσ2 (fun c j h => hGσ8 c j (show ¬ ((c = 88 ∧ (j = 19 ∨ j = 20 ∨ j = 21 ∨ j = 22 ∨ j = 23 ∨ j = 24 ∨ j = 25 ∨ j = 26 ∨ j = 27)) ∨ (c = 89 ∧ 300 ≤ j)) from by unfold STR at h; omega))
  refine j_pop (pc := 683) dL_law_683 rfl ?_
  refine j_goto (pc := 684) (tgt := 1352) dL_law_684 rfl ?_
  have y12 : σ8 10 10 = τ 10 10 := ((hGσ8 10 10 (show ¬ ((10 = 88 ∧ (10 = 19 ∨ 10 = 20 ∨ 10 = 21 ∨ 10 = 22 ∨ 10 = 23 ∨ 10 = 24 ∨ 10 = 25 ∨ 10 = 26 ∨ 10 = 27)) ∨ (10 = 89 ∧ 300 ≤ 10)) from by omega))).trans (hGσ2 10 10 (show ¬ ((56 ≤ 10 ∧ 10 < 58) ∨ (10 = 60 ∧ (10 = 5 ∨ 10 = 6 ∨ 10 = 8 ∨ 10 = 10 ∨ 10 = 11)) ∨ (61 ≤ 10 ∧ 10 < 71)) from by omega))
  have y13 : σ8 88 12 = τ 88 12 := ((hGσ8 88 12 (show ¬ ((88 = 88 ∧ (12 = 19 ∨ 12 = 20 ∨ 12 = 21 ∨ 12 = 22 ∨ 12 = 23 ∨ 12 = 24 ∨ 12 = 25 ∨ 12 = 26 ∨ 12 = 27)) ∨ (88 = 89 ∧ 300 ≤ 12)) from by omega))).trans (hGσ2 88 12 (show ¬ ((56 ≤ 88 ∧ 88 < 58) ∨ (88 = 60 ∧ (12 = 5 ∨ 12 = 6 ∨ 12 = 8 ∨ 12 = 10 ∨ 12 = 11)) ∨ (61 ≤ 88 ∧ 88 < 71)) from by omega))
  have f14 : (0 : Int) ≤ τ 88 12 ∧ τ 88 12 ≤ 400 := hIτ 88 12
  have y15 : σ8 0 13 = τ 0 13 := ((hGσ8 0 13 (show ¬ ((0 = 88 ∧ (13 = 19 ∨ 13 = 20 ∨ 13 = 21 ∨ 13 = 22 ∨ 13 = 23 ∨ 13 = 24 ∨ 13 = 25 ∨ 13 = 26 ∨ 13 = 27)) ∨ (0 = 89 ∧ 300 ≤ 13)) from by omega))).trans (hGσ2 0 13 (show ¬ ((56 ≤ 0 ∧ 0 < 58) ∨ (0 = 60 ∧ (13 = 5 ∨ 13 = 6 ∨ 13 = 8 ∨ 13 = 10 ∨ 13 = 11)) ∨ (61 ≤ 0 ∧ 0 < 71)) from by omega))
  have f16 : (-2147483648 : Int) ≤ τ 0 13 ∧ τ 0 13 ≤ 2147483647 := hIτ 0 13
  have y17 : σ8 88 17 = τ 88 17 := ((hGσ8 88 17 (show ¬ ((88 = 88 ∧ (17 = 19 ∨ 17 = 20 ∨ 17 = 21 ∨ 17 = 22 ∨ 17 = 23 ∨ 17 = 24 ∨ 17 = 25 ∨ 17 = 26 ∨ 17 = 27)) ∨ (88 = 89 ∧ 300 ≤ 17)) from by omega))).trans (hGσ2 88 17 (show ¬ ((56 ≤ 88 ∧ 88 < 58) ∨ (88 = 60 ∧ (17 = 5 ∨ 17 = 6 ∨ 17 = 8 ∨ 17 = 10 ∨ 17 = 11)) ∨ (61 ≤ 88 ∧ 88 < 71)) from by omega))
  have f18 : (0 : Int) ≤ τ 88 17 ∧ τ 88 17 ≤ 5 := hIτ 88 17
  have y19 : σ8 31 6 = τ 31 6 := ((hGσ8 31 6 (show ¬ ((31 = 88 ∧ (6 = 19 ∨ 6 = 20 ∨ 6 = 21 ∨ 6 = 22 ∨ 6 = 23 ∨ 6 = 24 ∨ 6 = 25 ∨ 6 = 26 ∨ 6 = 27)) ∨ (31 = 89 ∧ 300 ≤ 6)) from by omega))).trans (hGσ2 31 6 (show ¬ ((56 ≤ 31 ∧ 31 < 58) ∨ (31 = 60 ∧ (6 = 5 ∨ 6 = 6 ∨ 6 = 8 ∨ 6 = 10 ∨ 6 = 11)) ∨ (61 ≤ 31 ∧ 31 < 71)) from by omega))
  have f20 : (0 : Int) ≤ τ 31 6 ∧ τ 31 6 ≤ 1 := hIτ 31 6
  have y21 : σ8 39 6 = τ 39 6 := ((hGσ8 39 6 (show ¬ ((39 = 88 ∧ (6 = 19 ∨ 6 = 20 ∨ 6 = 21 ∨ 6 = 22 ∨ 6 = 23 ∨ 6 = 24 ∨ 6 = 25 ∨ 6 = 26 ∨ 6 = 27)) ∨ (39 = 89 ∧ 300 ≤ 6)) from by omega))).trans (hGσ2 39 6 (show ¬ ((56 ≤ 39 ∧ 39 < 58) ∨ (39 = 60 ∧ (6 = 5 ∨ 6 = 6 ∨ 6 = 8 ∨ 6 = 10 ∨ 6 = 11)) ∨ (61 ≤ 39 ∧ 39 < 71)) from by omega))
  have f22 : (0 : Int) ≤ τ 39 6 ∧ τ 39 6 ≤ 1 := hIτ 39 6
  have y23 : σ8 90 0 = τ 90 0 := ((hGσ8 90 0 (show ¬ ((90 = 88 ∧ (0 = 19 ∨ 0 = 20 ∨ 0 = 21 ∨ 0 = 22 ∨ 0 = 23 ∨ 0 = 24 ∨ 0 = 25 ∨ 0 = 26 ∨ 0 = 27)) ∨ (90 = 89 ∧ 300 ≤ 0)) from by omega))).trans (hGσ2 90 0 (show ¬ ((56 ≤ 90 ∧ 90 < 58) ∨ (90 = 60 ∧ (0 = 5 ∨ 0 = 6 ∨ 0 = 8 ∨ 0 = 10 ∨ 0 = 11)) ∨ (61 ≤ 90 ∧ 90 < 71)) from by omega))
  have f24 : (0 : Int) ≤ τ 90 0 ∧ τ 90 0 ≤ 1 := hIτ 90 0
  have y25 : σ8 90 1 = τ 90 1 := ((hGσ8 90 1 (show ¬ ((90 = 88 ∧ (1 = 19 ∨ 1 = 20 ∨ 1 = 21 ∨ 1 = 22 ∨ 1 = 23 ∨ 1 = 24 ∨ 1 = 25 ∨ 1 = 26 ∨ 1 = 27)) ∨ (90 = 89 ∧ 300 ≤ 1)) from by omega))).trans (hGσ2 90 1 (show ¬ ((56 ≤ 90 ∧ 90 < 58) ∨ (90 = 60 ∧ (1 = 5 ∨ 1 = 6 ∨ 1 = 8 ∨ 1 = 10 ∨ 1 = 11)) ∨ (61 ≤ 90 ∧ 90 < 71)) from by omega))
  have f26 : (0 : Int) ≤ τ 90 1 ∧ τ 90 1 ≤ 1 := hIτ 90 1
  exact K σ8 hIσ8 ⟨mσ8, by omega, sσ8, bσ8, by omega, by omega, by omega, tσ8, stσ8⟩
set_option maxHeartbeats 4000000 in
set_option maxRecDepth 100000 in
theorem w_case_17 {G : tw_G} (hX : tw_isX G) (hM : tw_isM G) {E : List Frame → Array Value → State → State → Prop} (hN : (gN G : Int) ≤ 2560) (i : Int) (hi : 0 ≤ i ∧ i + 5 ≤ (gN G : Int)) (τ : tw_M) (hIτ : tw_I τ) (hL : tw_LI τ) (K : ∀ τ' : tw_M, tw_I τ' → tw_LI τ' → tw_J G tw_ML E 1352 [(0, vR 300), (1, vR 0), (2, vR 88), (3, vI i)] [] τ') : tw_J G tw_ML E 687 [(0, vR 300), (1, vR 0), (2, vR 88), (3, vI i)] [] τ := by
  obtain ⟨mτ, zτ, sτ, bτ, fτ, kτ0, kτ1, tτ, stτ⟩ := hL
  have g9 : (0 : Int) ≤ τ 10 10 ∧ τ 10 10 ≤ 400 := hIτ 10 10
  obtain ⟨v1, ev1⟩ : ∃ v : Int, v = (gxs G (i + 1).toNat).toInt := ⟨_, rfl⟩
  have hv1 : (-2147483648 : Int) ≤ v1 ∧ v1 ≤ 2147483647 := by rw [ev1]; exact i32_in _
  obtain ⟨v2, ev2⟩ : ∃ v : Int, v = (gxs G (i + 2).toNat).toInt := ⟨_, rfl⟩
  have hv2 : (-2147483648 : Int) ≤ v2 ∧ v2 ≤ 2147483647 := by rw [ev2]; exact i32_in _
  obtain ⟨v3, ev3⟩ : ∃ v : Int, v = (gxs G (i + 3).toNat).toInt := ⟨_, rfl⟩
  have hv3 : (-2147483648 : Int) ≤ v3 ∧ v3 ≤ 2147483647 := by rw [ev3]; exact i32_in _
  obtain ⟨v4, ev4⟩ : ∃ v : Int, v = (gxs G (i + 4).toNat).toInt := ⟨_, rfl⟩
  have hv4 : (-2147483648 : Int) ≤ v4 ∧ v4 ≤ 2147483647 := by rw [ev4]; exact i32_in _
  refine j_aload_n (pc := 687) dL_law_687 rfl rfl ?_
  refine j_aload_n (pc := 688) dL_law_688 rfl rfl ?_
  refine j_iload_n (pc := 689) dL_law_689 rfl rfl ?_
  refine j_iconst (pc := 690) dL_law_690 ?_
  refine j_iadd (pc := 691) dL_law_691 ?_
  refine j_scrAt (pc := 692) dL_law_692 (by omega) (by omega) (by omega) ?_
  refine j_topV (show _ = v1 from ev1.symm) ?_
  refine j_aload_n (pc := 693) dL_law_693 rfl rfl ?_
  refine j_iload_n (pc := 694) dL_law_694 rfl rfl ?_
  refine j_iconst (pc := 695) dL_law_695 ?_
  refine j_iadd (pc := 696) dL_law_696 ?_
  refine j_scrAt (pc := 697) dL_law_697 (by omega) (by omega) (by omega) ?_
  refine j_topV (show _ = v2 from ev2.symm) ?_
  refine j_callV (pc := 698) (As := [vI v1, vI v2]) (st := []) (c_X11_keep hX v1 ⟨by omega, by omega⟩ v2 ⟨by omega, by omega⟩ τ hIτ) mv_L_91 rfl rfl rfl (a_0 hX) dL_law_698 ⟨Nat.le_of_ble_eq_true rfl, Nat.le_of_ble_eq_true rfl⟩ ⟨Nat.le_of_ble_eq_true rfl, Nat.le_of_ble_eq_true rfl⟩ rfl (Nat.le_of_ble_eq_true rfl) rfl (fun z1 σ2 hz1 => ?_)
  obtain ⟨r4, rfl, hr4, hIσ2, hGσ2, -⟩ := hz1
  refine j_st (st' := [vI r4]) rfl ?_
  have y5 : σ2 10 10 = τ 10 10 := (hGσ2 10 10 (show ¬ ((56 ≤ 10 ∧ 10 < 58) ∨ (10 = 60 ∧ (10 = 5)) ∨ (61 ≤ 10 ∧ 10 < 67)) from by omega))
  have f6 : (0 : Int) ≤ τ 10 10 ∧ τ 10 10 ≤ 400 := hIτ 10 10
  have bσ2 : BY σ2 := BY_kept bτ (fun j => hGσ2 11 j (show ¬ ((56 ≤ 11 ∧ 11 < 58) ∨ (11 = 60 ∧ (j = 5)) ∨ (61 ≤ 11 ∧ 11 < 67)) from by omega)) (fun j => hGσ2 98 j (show ¬ ((56 ≤ 98 ∧ 98 < 58) ∨ (98 = 60 ∧ (j = 5)) ∨ (61 ≤ 98 ∧ 98 < 67)) from by omega)) (by omega)
  have mσ2 : mI σ2 := mI_kept mτ (fun j hj => hGσ2 89 j (show ¬ ((56 ≤ 89 ∧ 89 < 58) ∨ (89 = 60 ∧ (j = 5)) ∨ (61 ≤ 89 ∧ 89 < 67)) from by omega)) (fun j => hGσ2 90 j (show ¬ ((56 ≤ 90 ∧ 90 < 58) ∨ (90 = 60 ∧ (j = 5)) ∨ (61 ≤ 90 ∧ 90 < 67)) from by omega)) (hGσ2 91 0 (show ¬ ((56 ≤ 91 ∧ 91 < 58) ∨ (91 = 60 ∧ (0 = 5)) ∨ (61 ≤ 91 ∧ 91 < 67)) from by omega)) hIτ
  have sσ2 : SR σ2 := SR_kept sτ (fun c j h => hGσ2 c j (show ¬ ((56 ≤ c ∧ c < 58) ∨ (c = 60 ∧ (j = 5)) ∨ (61 ≤ c ∧ c < 67)) from by omega)) (fun j => hGσ2 104 j (show ¬ ((56 ≤ 104 ∧ 104 < 58) ∨ (104 = 60 ∧ (j = 5)) ∨ (61 ≤ 104 ∧ 104 < 67)) from by omega)) (fun j => hGσ2 105 j (show ¬ ((56 ≤ 105 ∧ 105 < 58) ∨ (105 = 60 ∧ (j = 5)) ∨ (61 ≤ 105 ∧ 105 < 67)) from by omega))
  have tσ2 : TT σ2 := TT_kept tτ (fun c j h => hGσ2 c j (show ¬ ((56 ≤ c ∧ c < 58) ∨ (c = 60 ∧ (j = 5)) ∨ (61 ≤ c ∧ c < 67)) from by omega)) (fun j h => hGσ2 89 j (show ¬ ((56 ≤ 89 ∧ 89 < 58) ∨ (89 = 60 ∧ (j = 5)) ∨ (61 ≤ 89 ∧ 89 < 67)) from by omega))
  have stσ2 : ST σ2 := ST_P stτ (fun c j h => hGσ2 c j (show ¬ ((56 ≤ c ∧ c < 58) ∨ (c = 60 ∧ (j = 5)) ∨ (61 ≤ c ∧ c < 67)) from by unfold STR at h; omega)) (fun f nz => BST_G (f (fun z => nz ((hGσ2 60 6 (show ¬ ((56 ≤ 60 ∧ 60 < 58) ∨ (60 = 60 ∧ (6 = 5)) ∨ (61 ≤ 60 ∧ 60 < 67)) from by omega)).trans z))) (hGσ2 60 8 (show ¬ ((56 ≤ 60 ∧ 60 < 58) ∨ (60 = 60 ∧ (8 = 5)) ∨ (61 ≤ 60 ∧ 60 < 67)) from by omega)) (hGσ2 60 10 (show ¬ ((56 ≤ 60 ∧ 60 < 58) ∨ (60 = 60 ∧ (10 = 5)) ∨ (61 ≤ 60 ∧ 60 < 67)) from by omega)) (hGσ2 60 11 (show ¬ ((56 ≤ 60 ∧ 60 < 58) ∨ (60 = 60 ∧ (11 = 5)) ∨ (61 ≤ 60 ∧ 60 < 67)) from by omega)) (fun c j a b => (hGσ2 c j (show ¬ ((56 ≤ c ∧ c < 58) ∨ (c = 60 ∧ (j = 5)) ∨ (61 ≤ c ∧ c < 67)) from by omega))))
  refine j_pop (pc := 701) dL_law_701 rfl ?_
  refine j_aload_n (pc := 702) dL_law_702 rfl rfl ?_
  refine j_aload_n (pc := 703) dL_law_703 rfl rfl ?_
  refine j_iload_n (pc := 704) dL_law_704 rfl rfl ?_
  refine j_iconst (pc := 705) dL_law_705 ?_
  refine j_iadd (pc := 706) dL_law_706 ?_
  refine j_scrAt (pc := 707) dL_law_707 (by omega) (by omega) (by omega) ?_
  refine j_topV (show _ = v1 from ev1.symm) ?_
  refine j_aload_n (pc := 708) dL_law_708 rfl rfl ?_
  refine j_iload_n (pc := 709) dL_law_709 rfl rfl ?_
  refine j_iconst (pc := 710) dL_law_710 ?_
  refine j_iadd (pc := 711) dL_law_711 ?_
  refine j_scrAt (pc := 712) dL_law_712 (by omega) (by omega) (by omega) ?_
  refine j_topV (show _ = v2 from ev2.symm) ?_
  refine j_callV (pc := 713) (As := [vI v1, vI v2]) (st := []) (c_X12_keep hM v1 ⟨by omega, by omega⟩ v2 ⟨by omega, by omega⟩ σ2 hIσ2) mv_L_94 rfl rfl rfl (a_88 hM) dL_law_713 ⟨Nat.le_of_ble_eq_true rfl, Nat.le_of_ble_eq_true rfl⟩ ⟨Nat.le_of_ble_eq_true rfl, Nat.le_of_ble_eq_true rfl⟩ rfl (Nat.le_of_ble_eq_true rfl) rfl (fun z7 σ8 hz7 => ?_)
  obtain ⟨r10, rfl, hr10, hIσ8, hGσ8, -⟩ := hz7
  refine j_st (st' := [vI r10]) rfl ?_
  have y11 : σ8 10 10 = τ 10 10 := ((hGσ8 10 10 (show ¬ ((10 = 88 ∧ (10 = 19 ∨ 10 = 20 ∨ 10 = 21 ∨ 10 = 22 ∨ 10 = 23 ∨ 10 = 24 ∨ 10 = 25)) ∨ (10 = 89 ∧ 300 ≤ 10)) from by omega))).trans (hGσ2 10 10 (show ¬ ((56 ≤ 10 ∧ 10 < 58) ∨ (10 = 60 ∧ (10 = 5)) ∨ (61 ≤ 10 ∧ 10 < 67)) from by omega))
  have bσ8 : BY σ8 := BY_kept bσ2 (fun j => hGσ8 11 j (show ¬ ((11 = 88 ∧ (j = 19 ∨ j = 20 ∨ j = 21 ∨ j = 22 ∨ j = 23 ∨ j = 24 ∨ j = 25)) ∨ (11 = 89 ∧ 300 ≤ j)) from by omega)) (fun j => hGσ8 98 j (show ¬ ((98 = 88 ∧ (j = 19 ∨ j = 20 ∨ j = 21 ∨ j = 22 ∨ j = 23 ∨ j = 24 ∨ j = 25)) ∨ (98 = 89 ∧ 300 ≤ j)) from by omega)) (by omega)
  have mσ8 : mI σ8 := mI_kept mσ2 (fun j hj => hGσ8 89 j (show ¬ ((89 = 88 ∧ (j = 19 ∨ j = 20 ∨ j = 21 ∨ j = 22 ∨ j = 23 ∨ j = 24 ∨ j = 25)) ∨ (89 = 89 ∧ 300 ≤ j)) from by omega)) (fun j => hGσ8 90 j (show ¬ ((90 = 88 ∧ (j = 19 ∨ j = 20 ∨ j = 21 ∨ j = 22 ∨ j = 23 ∨ j = 24 ∨ j = 25)) ∨ (90 = 89 ∧ 300 ≤ j)) from by omega)) (hGσ8 91 0 (show ¬ ((91 = 88 ∧ (0 = 19 ∨ 0 = 20 ∨ 0 = 21 ∨ 0 = 22 ∨ 0 = 23 ∨ 0 = 24 ∨ 0 = 25)) ∨ (91 = 89 ∧ 300 ≤ 0)) from by omega)) hIσ2
  have sσ8 : SR σ8 := SR_kept sσ2 (fun c j h => hGσ8 c j (show ¬ ((c = 88 ∧ (j = 19 ∨ j = 20 ∨ j = 21 ∨ j = 22 ∨ j = 23 ∨ j = 24 ∨ j = 25)) ∨ (c = 89 ∧ 300 ≤ j)) from by omega)) (fun j => hGσ8 104 j (show ¬ ((104 = 88 ∧ (j = 19 ∨ j = 20 ∨ j = 21 ∨ j = 22 ∨ j = 23 ∨ j = 24 ∨ j = 25)) ∨ (104 = 89 ∧ 300 ≤ j)) from by omega)) (fun j => hGσ8 105 j (show ¬ ((105 = 88 ∧ (j = 19 ∨ j = 20 ∨ j = 21 ∨ j = 22 ∨ j = 23 ∨ j = 24 ∨ j = 25)) ∨ (105 = 89 ∧ 300 ≤ j)) from by omega))
  have tσ8 : TT σ8 := TT_kept tσ2 (fun c j h => hGσ8 c j (show ¬ ((c = 88 ∧ (j = 19 ∨ j = 20 ∨ j = 21 ∨ j = 22 ∨ j = 23 ∨ j = 24 ∨ j = 25)) ∨ (c = 89 ∧ 300 ≤ j)) from by omega)) (fun j h => hGσ8 89 j (show ¬ ((89 = 88 ∧ (j = 19 ∨ j = 20 ∨ j = 21 ∨ j = 22 ∨ j = 23 ∨ j = 24 ∨ j = 25)) ∨ (89 = 89 ∧ 300 ≤ j)) from by omega))
  have stσ8 : ST σ8 := ST_F stσ2 (fun c j h => hGσ8 c j (show ¬ ((c = 88 ∧ (j = 19 ∨ j = 20 ∨ j = 21 ∨ j = 22 ∨ j = 23 ∨ j = 24 ∨ j = 25)) ∨ (c = 89 ∧ 300 ≤ j)) from by unfold STR at h; omega))
  refine j_pop (pc := 716) dL_law_716 rfl ?_
  refine j_goto (pc := 717) (tgt := 1352) dL_law_717 rfl ?_
  have y12 : σ8 10 10 = τ 10 10 := ((hGσ8 10 10 (show ¬ ((10 = 88 ∧ (10 = 19 ∨ 10 = 20 ∨ 10 = 21 ∨ 10 = 22 ∨ 10 = 23 ∨ 10 = 24 ∨ 10 = 25)) ∨ (10 = 89 ∧ 300 ≤ 10)) from by omega))).trans (hGσ2 10 10 (show ¬ ((56 ≤ 10 ∧ 10 < 58) ∨ (10 = 60 ∧ (10 = 5)) ∨ (61 ≤ 10 ∧ 10 < 67)) from by omega))
  have y13 : σ8 88 12 = τ 88 12 := ((hGσ8 88 12 (show ¬ ((88 = 88 ∧ (12 = 19 ∨ 12 = 20 ∨ 12 = 21 ∨ 12 = 22 ∨ 12 = 23 ∨ 12 = 24 ∨ 12 = 25)) ∨ (88 = 89 ∧ 300 ≤ 12)) from by omega))).trans (hGσ2 88 12 (show ¬ ((56 ≤ 88 ∧ 88 < 58) ∨ (88 = 60 ∧ (12 = 5)) ∨ (61 ≤ 88 ∧ 88 < 67)) from by omega))
  have f14 : (0 : Int) ≤ τ 88 12 ∧ τ 88 12 ≤ 400 := hIτ 88 12
  have y15 : σ8 0 13 = τ 0 13 := ((hGσ8 0 13 (show ¬ ((0 = 88 ∧ (13 = 19 ∨ 13 = 20 ∨ 13 = 21 ∨ 13 = 22 ∨ 13 = 23 ∨ 13 = 24 ∨ 13 = 25)) ∨ (0 = 89 ∧ 300 ≤ 13)) from by omega))).trans (hGσ2 0 13 (show ¬ ((56 ≤ 0 ∧ 0 < 58) ∨ (0 = 60 ∧ (13 = 5)) ∨ (61 ≤ 0 ∧ 0 < 67)) from by omega))
  have f16 : (-2147483648 : Int) ≤ τ 0 13 ∧ τ 0 13 ≤ 2147483647 := hIτ 0 13
  have y17 : σ8 88 17 = τ 88 17 := ((hGσ8 88 17 (show ¬ ((88 = 88 ∧ (17 = 19 ∨ 17 = 20 ∨ 17 = 21 ∨ 17 = 22 ∨ 17 = 23 ∨ 17 = 24 ∨ 17 = 25)) ∨ (88 = 89 ∧ 300 ≤ 17)) from by omega))).trans (hGσ2 88 17 (show ¬ ((56 ≤ 88 ∧ 88 < 58) ∨ (88 = 60 ∧ (17 = 5)) ∨ (61 ≤ 88 ∧ 88 < 67)) from by omega))
  have f18 : (0 : Int) ≤ τ 88 17 ∧ τ 88 17 ≤ 5 := hIτ 88 17
  have y19 : σ8 31 6 = τ 31 6 := ((hGσ8 31 6 (show ¬ ((31 = 88 ∧ (6 = 19 ∨ 6 = 20 ∨ 6 = 21 ∨ 6 = 22 ∨ 6 = 23 ∨ 6 = 24 ∨ 6 = 25)) ∨ (31 = 89 ∧ 300 ≤ 6)) from by omega))).trans (hGσ2 31 6 (show ¬ ((56 ≤ 31 ∧ 31 < 58) ∨ (31 = 60 ∧ (6 = 5)) ∨ (61 ≤ 31 ∧ 31 < 67)) from by omega))
  have f20 : (0 : Int) ≤ τ 31 6 ∧ τ 31 6 ≤ 1 := hIτ 31 6
  have y21 : σ8 39 6 = τ 39 6 := ((hGσ8 39 6 (show ¬ ((39 = 88 ∧ (6 = 19 ∨ 6 = 20 ∨ 6 = 21 ∨ 6 = 22 ∨ 6 = 23 ∨ 6 = 24 ∨ 6 = 25)) ∨ (39 = 89 ∧ 300 ≤ 6)) from by omega))).trans (hGσ2 39 6 (show ¬ ((56 ≤ 39 ∧ 39 < 58) ∨ (39 = 60 ∧ (6 = 5)) ∨ (61 ≤ 39 ∧ 39 < 67)) from by omega))
  have f22 : (0 : Int) ≤ τ 39 6 ∧ τ 39 6 ≤ 1 := hIτ 39 6
  have y23 : σ8 90 0 = τ 90 0 := ((hGσ8 90 0 (show ¬ ((90 = 88 ∧ (0 = 19 ∨ 0 = 20 ∨ 0 = 21 ∨ 0 = 22 ∨ 0 = 23 ∨ 0 = 24 ∨ 0 = 25)) ∨ (90 = 89 ∧ 300 ≤ 0)) from by omega))).trans (hGσ2 90 0 (show ¬ ((56 ≤ 90 ∧ 90 < 58) ∨ (90 = 60 ∧ (0 = 5)) ∨ (61 ≤ 90 ∧ 90 < 67)) from by omega))
  have f24 : (0 : Int) ≤ τ 90 0 ∧ τ 90 0 ≤ 1 := hIτ 90 0
  have y25 : σ8 90 1 = τ 90 1 := ((hGσ8 90 1 (show ¬ ((90 = 88 ∧ (1 = 19 ∨ 1 = 20 ∨ 1 = 21 ∨ 1 = 22 ∨ 1 = 23 ∨ 1 = 24 ∨ 1 = 25)) ∨ (90 = 89 ∧ 300 ≤ 1)) from by omega))).trans (hGσ2 90 1 (show ¬ ((56 ≤ 90 ∧ 90 < 58) ∨ (90 = 60 ∧ (1 = 5)) ∨ (61 ≤ 90 ∧ 90 < 67)) from by omega))
  have f26 : (0 : Int) ≤ τ 90 1 ∧ τ 90 1 ≤ 1 := hIτ 90 1
  exact K σ8 hIσ8 ⟨mσ8, by omega, sσ8, bσ8, by omega, by omega, by omega, tσ8, stσ8⟩
set_option maxHeartbeats 4000000 in
set_option maxRecDepth 100000 in
theorem w_case_18 {G : tw_G} (hX : tw_isX G) (hM : tw_isM G) {E : List Frame → Array Value → State → State → Prop} (hN : (gN G : Int) ≤ 2560) (i : Int) (hi : 0 ≤ i ∧ i + 5 ≤ (gN G : Int)) (τ : tw_M) (hIτ : tw_I τ) (hL : tw_LI τ) (K : ∀ τ' : tw_M, tw_I τ' → tw_LI τ' → tw_J G tw_ML E 1352 [(0, vR 300), (1, vR 0), (2, vR 88), (3, vI i)] [] τ') : tw_J G tw_ML E 720 [(0, vR 300), (1, vR 0), (2, vR 88), (3, vI i)] [] τ := by
  obtain ⟨mτ, zτ, sτ, bτ, fτ, kτ0, kτ1, tτ, stτ⟩ := hL
  have g9 : (0 : Int) ≤ τ 10 10 ∧ τ 10 10 ≤ 400 := hIτ 10 10
  obtain ⟨v1, ev1⟩ : ∃ v : Int, v = (gxs G (i + 1).toNat).toInt := ⟨_, rfl⟩
  have hv1 : (-2147483648 : Int) ≤ v1 ∧ v1 ≤ 2147483647 := by rw [ev1]; exact i32_in _
  obtain ⟨v2, ev2⟩ : ∃ v : Int, v = (gxs G (i + 2).toNat).toInt := ⟨_, rfl⟩
  have hv2 : (-2147483648 : Int) ≤ v2 ∧ v2 ≤ 2147483647 := by rw [ev2]; exact i32_in _
  obtain ⟨v3, ev3⟩ : ∃ v : Int, v = (gxs G (i + 3).toNat).toInt := ⟨_, rfl⟩
  have hv3 : (-2147483648 : Int) ≤ v3 ∧ v3 ≤ 2147483647 := by rw [ev3]; exact i32_in _
  obtain ⟨v4, ev4⟩ : ∃ v : Int, v = (gxs G (i + 4).toNat).toInt := ⟨_, rfl⟩
  have hv4 : (-2147483648 : Int) ≤ v4 ∧ v4 ≤ 2147483647 := by rw [ev4]; exact i32_in _
  refine j_aload_n (pc := 720) dL_law_720 rfl rfl ?_
  refine j_aload_n (pc := 721) dL_law_721 rfl rfl ?_
  refine j_iload_n (pc := 722) dL_law_722 rfl rfl ?_
  refine j_iconst (pc := 723) dL_law_723 ?_
  refine j_iadd (pc := 724) dL_law_724 ?_
  refine j_scrAt (pc := 725) dL_law_725 (by omega) (by omega) (by omega) ?_
  refine j_topV (show _ = v1 from ev1.symm) ?_
  refine j_callV (pc := 726) (As := [vI v1]) (st := []) (c_X11_best hX v1 ⟨by omega, by omega⟩ τ hIτ) mv_L_95 rfl rfl rfl (a_0 hX) dL_law_726 ⟨Nat.le_of_ble_eq_true rfl, Nat.le_of_ble_eq_true rfl⟩ ⟨Nat.le_of_ble_eq_true rfl, Nat.le_of_ble_eq_true rfl⟩ rfl (Nat.le_of_ble_eq_true rfl) rfl (fun z1 σ2 hz1 => ?_)
  obtain ⟨r4, rfl, hr4, hIσ2, hGσ2, q3_0⟩ := hz1
  replace q3_0 : ∀ rk : Nat → Int, WOK (wW 1 τ) → (∀ s : Int, 1 ≤ s → s ≤ 10 → τ 3 s.toNat = rk s.toNat) → (¬ τ 60 6 = 0 → PLN (wW 1 τ) rk τ) → ¬ σ2 60 6 = 0 → PLN (wW 1 τ) rk σ2 := q3_0
  refine j_st (st' := [vI r4]) rfl ?_
  have y5 : σ2 10 10 = τ 10 10 := (hGσ2 10 10 (show ¬ ((56 ≤ 10 ∧ 10 < 58) ∨ (10 = 60 ∧ (10 = 5 ∨ 10 = 6 ∨ 10 = 7 ∨ 10 = 8 ∨ 10 = 10 ∨ 10 = 11 ∨ 10 = 12 ∨ 10 = 13)) ∨ (61 ≤ 10 ∧ 10 < 71)) from by omega))
  have f6 : (0 : Int) ≤ τ 10 10 ∧ τ 10 10 ≤ 400 := hIτ 10 10
  have bσ2 : BY σ2 := BY_kept bτ (fun j => hGσ2 11 j (show ¬ ((56 ≤ 11 ∧ 11 < 58) ∨ (11 = 60 ∧ (j = 5 ∨ j = 6 ∨ j = 7 ∨ j = 8 ∨ j = 10 ∨ j = 11 ∨ j = 12 ∨ j = 13)) ∨ (61 ≤ 11 ∧ 11 < 71)) from by omega)) (fun j => hGσ2 98 j (show ¬ ((56 ≤ 98 ∧ 98 < 58) ∨ (98 = 60 ∧ (j = 5 ∨ j = 6 ∨ j = 7 ∨ j = 8 ∨ j = 10 ∨ j = 11 ∨ j = 12 ∨ j = 13)) ∨ (61 ≤ 98 ∧ 98 < 71)) from by omega)) (by omega)
  have mσ2 : mI σ2 := mI_kept mτ (fun j hj => hGσ2 89 j (show ¬ ((56 ≤ 89 ∧ 89 < 58) ∨ (89 = 60 ∧ (j = 5 ∨ j = 6 ∨ j = 7 ∨ j = 8 ∨ j = 10 ∨ j = 11 ∨ j = 12 ∨ j = 13)) ∨ (61 ≤ 89 ∧ 89 < 71)) from by omega)) (fun j => hGσ2 90 j (show ¬ ((56 ≤ 90 ∧ 90 < 58) ∨ (90 = 60 ∧ (j = 5 ∨ j = 6 ∨ j = 7 ∨ j = 8 ∨ j = 10 ∨ j = 11 ∨ j = 12 ∨ j = 13)) ∨ (61 ≤ 90 ∧ 90 < 71)) from by omega)) (hGσ2 91 0 (show ¬ ((56 ≤ 91 ∧ 91 < 58) ∨ (91 = 60 ∧ (0 = 5 ∨ 0 = 6 ∨ 0 = 7 ∨ 0 = 8 ∨ 0 = 10 ∨ 0 = 11 ∨ 0 = 12 ∨ 0 = 13)) ∨ (61 ≤ 91 ∧ 91 < 71)) from by omega)) hIτ
  have sσ2 : SR σ2 := SR_kept sτ (fun c j h => hGσ2 c j (show ¬ ((56 ≤ c ∧ c < 58) ∨ (c = 60 ∧ (j = 5 ∨ j = 6 ∨ j = 7 ∨ j = 8 ∨ j = 10 ∨ j = 11 ∨ j = 12 ∨ j = 13)) ∨ (61 ≤ c ∧ c < 71)) from by omega)) (fun j => hGσ2 104 j (show ¬ ((56 ≤ 104 ∧ 104 < 58) ∨ (104 = 60 ∧ (j = 5 ∨ j = 6 ∨ j = 7 ∨ j = 8 ∨ j = 10 ∨ j = 11 ∨ j = 12 ∨ j = 13)) ∨ (61 ≤ 104 ∧ 104 < 71)) from by omega)) (fun j => hGσ2 105 j (show ¬ ((56 ≤ 105 ∧ 105 < 58) ∨ (105 = 60 ∧ (j = 5 ∨ j = 6 ∨ j = 7 ∨ j = 8 ∨ j = 10 ∨ j = 11 ∨ j = 12 ∨ j = 13)) ∨ (61 ≤ 105 ∧ 105 < 71)) from by omega))
  have tσ2 : TT σ2 := TT_kept tτ (fun c j h => hGσ2 c j (show ¬ ((56 ≤ c ∧ c < 58) ∨ (c = 60 ∧ (j = 5 ∨ j = 6 ∨ j = 7 ∨ j = 8 ∨ j = 10 ∨ j = 11 ∨ j = 12 ∨ j = 13)) ∨ (61 ≤ c ∧ c < 71)) from by omega)) (fun j h => hGσ2 89 j (show ¬ ((56 ≤ 89 ∧ 89 < 58) ∨ (89 = 60 ∧ (j = 5 ∨ j = 6 ∨ j = 7 ∨ j = 8 ∨ j = 10 ∨ j = 11 ∨ j = 12 ∨ j = 13)) ∨ (61 ≤ 89 ∧ 89 < 71)) from by omega))
  have stσ2 : ST σ2 := ST_P stτ (fun c j h => hGσ2 c j (show ¬ ((56 ≤ c ∧ c < 58) ∨ (c = 60 ∧ (j = 5 ∨ j = 6 ∨ j = 7 ∨ j = 8 ∨ j = 10 ∨ j = 11 ∨ j = 12 ∨ j = 13)) ∨ (61 ≤ c ∧ c < 71)) from by unfold STR at h; omega)) (fun f nz => by rw [← stτ.1] at f ⊢; exact q3_0 (τ 3) (by rw [stτ.1]; exact WOK_M hIτ) (fun s _ _ => rfl) f nz)
  clear q3_0
  refine j_pop (pc := 729) dL_law_729 rfl ?_
  refine j_aload_n (pc := 730) dL_law_730 rfl rfl ?_
  refine j_aload_n (pc := 731) dL_law_731 rfl rfl ?_
  refine j_iload_n (pc := 732) dL_law_732 rfl rfl ?_
  refine j_iconst (pc := 733) dL_law_733 ?_
  refine j_iadd (pc := 734) dL_law_734 ?_
  refine j_scrAt (pc := 735) dL_law_735 (by omega) (by omega) (by omega) ?_
  refine j_topV (show _ = v1 from ev1.symm) ?_
  refine j_callV (pc := 736) (As := [vI v1]) (st := []) (c_X12_best hM v1 ⟨by omega, by omega⟩ σ2 hIσ2) mv_L_98 rfl rfl rfl (a_88 hM) dL_law_736 ⟨Nat.le_of_ble_eq_true rfl, Nat.le_of_ble_eq_true rfl⟩ ⟨Nat.le_of_ble_eq_true rfl, Nat.le_of_ble_eq_true rfl⟩ rfl (Nat.le_of_ble_eq_true rfl) rfl (fun z7 σ8 hz7 => ?_)
  obtain ⟨r10, rfl, hr10, hIσ8, hGσ8, -⟩ := hz7
  refine j_st (st' := [vI r10]) rfl ?_
  have y11 : σ8 10 10 = τ 10 10 := ((hGσ8 10 10 (show ¬ ((10 = 88 ∧ (10 = 19 ∨ 10 = 20 ∨ 10 = 21 ∨ 10 = 22 ∨ 10 = 23 ∨ 10 = 24 ∨ 10 = 25 ∨ 10 = 26 ∨ 10 = 27)) ∨ (10 = 89 ∧ 300 ≤ 10)) from by omega))).trans (hGσ2 10 10 (show ¬ ((56 ≤ 10 ∧ 10 < 58) ∨ (10 = 60 ∧ (10 = 5 ∨ 10 = 6 ∨ 10 = 7 ∨ 10 = 8 ∨ 10 = 10 ∨ 10 = 11 ∨ 10 = 12 ∨ 10 = 13)) ∨ (61 ≤ 10 ∧ 10 < 71)) from by omega))
  have bσ8 : BY σ8 := BY_kept bσ2 (fun j => hGσ8 11 j (show ¬ ((11 = 88 ∧ (j = 19 ∨ j = 20 ∨ j = 21 ∨ j = 22 ∨ j = 23 ∨ j = 24 ∨ j = 25 ∨ j = 26 ∨ j = 27)) ∨ (11 = 89 ∧ 300 ≤ j)) from by omega)) (fun j => hGσ8 98 j (show ¬ ((98 = 88 ∧ (j = 19 ∨ j = 20 ∨ j = 21 ∨ j = 22 ∨ j = 23 ∨ j = 24 ∨ j = 25 ∨ j = 26 ∨ j = 27)) ∨ (98 = 89 ∧ 300 ≤ j)) from by omega)) (by omega)
  have mσ8 : mI σ8 := mI_kept mσ2 (fun j hj => hGσ8 89 j (show ¬ ((89 = 88 ∧ (j = 19 ∨ j = 20 ∨ j = 21 ∨ j = 22 ∨ j = 23 ∨ j = 24 ∨ j = 25 ∨ j = 26 ∨ j = 27)) ∨ (89 = 89 ∧ 300 ≤ j)) from by omega)) (fun j => hGσ8 90 j (show ¬ ((90 = 88 ∧ (j = 19 ∨ j = 20 ∨ j = 21 ∨ j = 22 ∨ j = 23 ∨ j = 24 ∨ j = 25 ∨ j = 26 ∨ j = 27)) ∨ (90 = 89 ∧ 300 ≤ j)) from by omega)) (hGσ8 91 0 (show ¬ ((91 = 88 ∧ (0 = 19 ∨ 0 = 20 ∨ 0 = 21 ∨ 0 = 22 ∨ 0 = 23 ∨ 0 = 24 ∨ 0 = 25 ∨ 0 = 26 ∨ 0 = 27)) ∨ (91 = 89 ∧ 300 ≤ 0)) from by omega)) hIσ2
  have sσ8 : SR σ8 := SR_kept sσ2 (fun c j h => hGσ8 c j (show ¬ ((c = 88 ∧ (j = 19 ∨ j = 20 ∨ j = 21 ∨ j = 22 ∨ j = 23 ∨ j = 24 ∨ j = 25 ∨ j = 26 ∨ j = 27)) ∨ (c = 89 ∧ 300 ≤ j)) from by omega)) (fun j => hGσ8 104 j (show ¬ ((104 = 88 ∧ (j = 19 ∨ j = 20 ∨ j = 21 ∨ j = 22 ∨ j = 23 ∨ j = 24 ∨ j = 25 ∨ j = 26 ∨ j = 27)) ∨ (104 = 89 ∧ 300 ≤ j)) from by omega)) (fun j => hGσ8 105 j (show ¬ ((105 = 88 ∧ (j = 19 ∨ j = 20 ∨ j = 21 ∨ j = 22 ∨ j = 23 ∨ j = 24 ∨ j = 25 ∨ j = 26 ∨ j = 27)) ∨ (105 = 89 ∧ 300 ≤ j)) from by omega))
  have tσ8 : TT σ8 := TT_kept tσ2 (fun c j h => hGσ8 c j (show ¬ ((c = 88 ∧ (j = 19 ∨ j = 20 ∨ j = 21 ∨ j = 22 ∨ j = 23 ∨ j = 24 ∨ j = 25 ∨ j = 26 ∨ j = 27)) ∨ (c = 89 ∧ 300 ≤ j)) from by omega)) (fun j h => hGσ8 89 j (show ¬ ((89 = 88 ∧ (j = 19 ∨ j = 20 ∨ j = 21 ∨ j = 22 ∨ j = 23 ∨ j = 24 ∨ j = 25 ∨ j = 26 ∨ j = 27)) ∨ (89 = 89 ∧ 300 ≤ j)) from by omega))
  have stσ8 : ST σ8 := ST_F stσ2 (fun c j h => hGσ8 c j (show ¬ ((c = 88 ∧ (j = 19 ∨ j = 20 ∨ j = 21 ∨ j = 22 ∨ j = 23 ∨ j = 24 ∨ j = 25 ∨ j = 26 ∨ j = 27)) ∨ (c = 89 ∧ 300 ≤ j)) from by unfold STR at h; omega))
  refine j_pop (pc := 739) dL_law_739 rfl ?_
  refine j_goto (pc := 740) (tgt := 1352) dL_law_740 rfl ?_
  have y12 : σ8 10 10 = τ 10 10 := ((hGσ8 10 10 (show ¬ ((10 = 88 ∧ (10 = 19 ∨ 10 = 20 ∨ 10 = 21 ∨ 10 = 22 ∨ 10 = 23 ∨ 10 = 24 ∨ 10 = 25 ∨ 10 = 26 ∨ 10 = 27)) ∨ (10 = 89 ∧ 300 ≤ 10)) from by omega))).trans (hGσ2 10 10 (show ¬ ((56 ≤ 10 ∧ 10 < 58) ∨ (10 = 60 ∧ (10 = 5 ∨ 10 = 6 ∨ 10 = 7 ∨ 10 = 8 ∨ 10 = 10 ∨ 10 = 11 ∨ 10 = 12 ∨ 10 = 13)) ∨ (61 ≤ 10 ∧ 10 < 71)) from by omega))
  have y13 : σ8 88 12 = τ 88 12 := ((hGσ8 88 12 (show ¬ ((88 = 88 ∧ (12 = 19 ∨ 12 = 20 ∨ 12 = 21 ∨ 12 = 22 ∨ 12 = 23 ∨ 12 = 24 ∨ 12 = 25 ∨ 12 = 26 ∨ 12 = 27)) ∨ (88 = 89 ∧ 300 ≤ 12)) from by omega))).trans (hGσ2 88 12 (show ¬ ((56 ≤ 88 ∧ 88 < 58) ∨ (88 = 60 ∧ (12 = 5 ∨ 12 = 6 ∨ 12 = 7 ∨ 12 = 8 ∨ 12 = 10 ∨ 12 = 11 ∨ 12 = 12 ∨ 12 = 13)) ∨ (61 ≤ 88 ∧ 88 < 71)) from by omega))
  have f14 : (0 : Int) ≤ τ 88 12 ∧ τ 88 12 ≤ 400 := hIτ 88 12
  have y15 : σ8 0 13 = τ 0 13 := ((hGσ8 0 13 (show ¬ ((0 = 88 ∧ (13 = 19 ∨ 13 = 20 ∨ 13 = 21 ∨ 13 = 22 ∨ 13 = 23 ∨ 13 = 24 ∨ 13 = 25 ∨ 13 = 26 ∨ 13 = 27)) ∨ (0 = 89 ∧ 300 ≤ 13)) from by omega))).trans (hGσ2 0 13 (show ¬ ((56 ≤ 0 ∧ 0 < 58) ∨ (0 = 60 ∧ (13 = 5 ∨ 13 = 6 ∨ 13 = 7 ∨ 13 = 8 ∨ 13 = 10 ∨ 13 = 11 ∨ 13 = 12 ∨ 13 = 13)) ∨ (61 ≤ 0 ∧ 0 < 71)) from by omega))
  have f16 : (-2147483648 : Int) ≤ τ 0 13 ∧ τ 0 13 ≤ 2147483647 := hIτ 0 13
  have y17 : σ8 88 17 = τ 88 17 := ((hGσ8 88 17 (show ¬ ((88 = 88 ∧ (17 = 19 ∨ 17 = 20 ∨ 17 = 21 ∨ 17 = 22 ∨ 17 = 23 ∨ 17 = 24 ∨ 17 = 25 ∨ 17 = 26 ∨ 17 = 27)) ∨ (88 = 89 ∧ 300 ≤ 17)) from by omega))).trans (hGσ2 88 17 (show ¬ ((56 ≤ 88 ∧ 88 < 58) ∨ (88 = 60 ∧ (17 = 5 ∨ 17 = 6 ∨ 17 = 7 ∨ 17 = 8 ∨ 17 = 10 ∨ 17 = 11 ∨ 17 = 12 ∨ 17 = 13)) ∨ (61 ≤ 88 ∧ 88 < 71)) from by omega))
  have f18 : (0 : Int) ≤ τ 88 17 ∧ τ 88 17 ≤ 5 := hIτ 88 17
  have y19 : σ8 31 6 = τ 31 6 := ((hGσ8 31 6 (show ¬ ((31 = 88 ∧ (6 = 19 ∨ 6 = 20 ∨ 6 = 21 ∨ 6 = 22 ∨ 6 = 23 ∨ 6 = 24 ∨ 6 = 25 ∨ 6 = 26 ∨ 6 = 27)) ∨ (31 = 89 ∧ 300 ≤ 6)) from by omega))).trans (hGσ2 31 6 (show ¬ ((56 ≤ 31 ∧ 31 < 58) ∨ (31 = 60 ∧ (6 = 5 ∨ 6 = 6 ∨ 6 = 7 ∨ 6 = 8 ∨ 6 = 10 ∨ 6 = 11 ∨ 6 = 12 ∨ 6 = 13)) ∨ (61 ≤ 31 ∧ 31 < 71)) from by omega))
  have f20 : (0 : Int) ≤ τ 31 6 ∧ τ 31 6 ≤ 1 := hIτ 31 6
  have y21 : σ8 39 6 = τ 39 6 := ((hGσ8 39 6 (show ¬ ((39 = 88 ∧ (6 = 19 ∨ 6 = 20 ∨ 6 = 21 ∨ 6 = 22 ∨ 6 = 23 ∨ 6 = 24 ∨ 6 = 25 ∨ 6 = 26 ∨ 6 = 27)) ∨ (39 = 89 ∧ 300 ≤ 6)) from by omega))).trans (hGσ2 39 6 (show ¬ ((56 ≤ 39 ∧ 39 < 58) ∨ (39 = 60 ∧ (6 = 5 ∨ 6 = 6 ∨ 6 = 7 ∨ 6 = 8 ∨ 6 = 10 ∨ 6 = 11 ∨ 6 = 12 ∨ 6 = 13)) ∨ (61 ≤ 39 ∧ 39 < 71)) from by omega))
  have f22 : (0 : Int) ≤ τ 39 6 ∧ τ 39 6 ≤ 1 := hIτ 39 6
  have y23 : σ8 90 0 = τ 90 0 := ((hGσ8 90 0 (show ¬ ((90 = 88 ∧ (0 = 19 ∨ 0 = 20 ∨ 0 = 21 ∨ 0 = 22 ∨ 0 = 23 ∨ 0 = 24 ∨ 0 = 25 ∨ 0 = 26 ∨ 0 = 27)) ∨ (90 = 89 ∧ 300 ≤ 0)) from by omega))).trans (hGσ2 90 0 (show ¬ ((56 ≤ 90 ∧ 90 < 58) ∨ (90 = 60 ∧ (0 = 5 ∨ 0 = 6 ∨ 0 = 7 ∨ 0 = 8 ∨ 0 = 10 ∨ 0 = 11 ∨ 0 = 12 ∨ 0 = 13)) ∨ (61 ≤ 90 ∧ 90 < 71)) from by omega))
  have f24 : (0 : Int) ≤ τ 90 0 ∧ τ 90 0 ≤ 1 := hIτ 90 0
  have y25 : σ8 90 1 = τ 90 1 := ((hGσ8 90 1 (show ¬ ((90 = 88 ∧ (1 = 19 ∨ 1 = 20 ∨ 1 = 21 ∨ 1 = 22 ∨ 1 = 23 ∨ 1 = 24 ∨ 1 = 25 ∨ 1 = 26 ∨ 1 = 27)) ∨ (90 = 89 ∧ 300 ≤ 1)) from by omega))).trans (hGσ2 90 1 (show ¬ ((56 ≤ 90 ∧ 90 < 58) ∨ (90 = 60 ∧ (1 = 5 ∨ 1 = 6 ∨ 1 = 7 ∨ 1 = 8 ∨ 1 = 10 ∨ 1 = 11 ∨ 1 = 12 ∨ 1 = 13)) ∨ (61 ≤ 90 ∧ 90 < 71)) from by omega))
  have f26 : (0 : Int) ≤ τ 90 1 ∧ τ 90 1 ≤ 1 := hIτ 90 1
  exact K σ8 hIσ8 ⟨mσ8, by omega, sσ8, bσ8, by omega, by omega, by omega, tσ8, stσ8⟩
set_option maxHeartbeats 4000000 in
set_option maxRecDepth 100000 in
theorem w_case_19 {G : tw_G} (hX : tw_isX G) (hM : tw_isM G) {E : List Frame → Array Value → State → State → Prop} (hN : (gN G : Int) ≤ 2560) (i : Int) (hi : 0 ≤ i ∧ i + 5 ≤ (gN G : Int)) (τ : tw_M) (hIτ : tw_I τ) (hL : tw_LI τ) (K : ∀ τ' : tw_M, tw_I τ' → tw_LI τ' → tw_J G tw_ML E 1352 [(0, vR 300), (1, vR 0), (2, vR 88), (3, vI i)] [] τ') : tw_J G tw_ML E 743 [(0, vR 300), (1, vR 0), (2, vR 88), (3, vI i)] [] τ := by
  obtain ⟨mτ, zτ, sτ, bτ, fτ, kτ0, kτ1, tτ, stτ⟩ := hL
  have g9 : (0 : Int) ≤ τ 10 10 ∧ τ 10 10 ≤ 400 := hIτ 10 10
  obtain ⟨v1, ev1⟩ : ∃ v : Int, v = (gxs G (i + 1).toNat).toInt := ⟨_, rfl⟩
  have hv1 : (-2147483648 : Int) ≤ v1 ∧ v1 ≤ 2147483647 := by rw [ev1]; exact i32_in _
  obtain ⟨v2, ev2⟩ : ∃ v : Int, v = (gxs G (i + 2).toNat).toInt := ⟨_, rfl⟩
  have hv2 : (-2147483648 : Int) ≤ v2 ∧ v2 ≤ 2147483647 := by rw [ev2]; exact i32_in _
  obtain ⟨v3, ev3⟩ : ∃ v : Int, v = (gxs G (i + 3).toNat).toInt := ⟨_, rfl⟩
  have hv3 : (-2147483648 : Int) ≤ v3 ∧ v3 ≤ 2147483647 := by rw [ev3]; exact i32_in _
  obtain ⟨v4, ev4⟩ : ∃ v : Int, v = (gxs G (i + 4).toNat).toInt := ⟨_, rfl⟩
  have hv4 : (-2147483648 : Int) ≤ v4 ∧ v4 ≤ 2147483647 := by rw [ev4]; exact i32_in _
  refine j_aload_n (pc := 743) dL_law_743 rfl rfl ?_
  refine j_callV (pc := 744) (As := []) (st := []) (c_X11_adopt hX τ hIτ) mv_L_99 rfl rfl rfl (a_0 hX) dL_law_744 ⟨Nat.le_of_ble_eq_true rfl, Nat.le_of_ble_eq_true rfl⟩ ⟨Nat.le_of_ble_eq_true rfl, Nat.le_of_ble_eq_true rfl⟩ rfl (Nat.le_of_ble_eq_true rfl) rfl (fun z1 σ2 hz1 => ?_)
  obtain ⟨r4, rfl, hr4, hIσ2, hGσ2, q3_0⟩ := hz1
  replace q3_0 : ∀ rk : Nat → Int, ADQ rk τ → ADE (wW 1 τ) rk r4 τ σ2 := q3_0
  refine j_st (st' := [vI r4]) rfl ?_
  have y5 : σ2 10 10 = τ 10 10 := (hGσ2 10 10 (show ¬ ((56 ≤ 10 ∧ 10 < 58) ∨ (10 = 60 ∧ (10 = 5 ∨ 10 = 6 ∨ 10 = 8 ∨ 10 = 10 ∨ 10 = 11)) ∨ (61 ≤ 10 ∧ 10 < 71) ∨ (24 ≤ 10 ∧ 10 < 29)) from by omega))
  have f6 : (0 : Int) ≤ τ 10 10 ∧ τ 10 10 ≤ 400 := hIτ 10 10
  have bσ2 : BY σ2 := BY_kept bτ (fun j => hGσ2 11 j (show ¬ ((56 ≤ 11 ∧ 11 < 58) ∨ (11 = 60 ∧ (j = 5 ∨ j = 6 ∨ j = 8 ∨ j = 10 ∨ j = 11)) ∨ (61 ≤ 11 ∧ 11 < 71) ∨ (24 ≤ 11 ∧ 11 < 29)) from by omega)) (fun j => hGσ2 98 j (show ¬ ((56 ≤ 98 ∧ 98 < 58) ∨ (98 = 60 ∧ (j = 5 ∨ j = 6 ∨ j = 8 ∨ j = 10 ∨ j = 11)) ∨ (61 ≤ 98 ∧ 98 < 71) ∨ (24 ≤ 98 ∧ 98 < 29)) from by omega)) (by omega)
  have mσ2 : mI σ2 := mI_kept mτ (fun j hj => hGσ2 89 j (show ¬ ((56 ≤ 89 ∧ 89 < 58) ∨ (89 = 60 ∧ (j = 5 ∨ j = 6 ∨ j = 8 ∨ j = 10 ∨ j = 11)) ∨ (61 ≤ 89 ∧ 89 < 71) ∨ (24 ≤ 89 ∧ 89 < 29)) from by omega)) (fun j => hGσ2 90 j (show ¬ ((56 ≤ 90 ∧ 90 < 58) ∨ (90 = 60 ∧ (j = 5 ∨ j = 6 ∨ j = 8 ∨ j = 10 ∨ j = 11)) ∨ (61 ≤ 90 ∧ 90 < 71) ∨ (24 ≤ 90 ∧ 90 < 29)) from by omega)) (hGσ2 91 0 (show ¬ ((56 ≤ 91 ∧ 91 < 58) ∨ (91 = 60 ∧ (0 = 5 ∨ 0 = 6 ∨ 0 = 8 ∨ 0 = 10 ∨ 0 = 11)) ∨ (61 ≤ 91 ∧ 91 < 71) ∨ (24 ≤ 91 ∧ 91 < 29)) from by omega)) hIτ
  have sσ2 : SR σ2 := SR_kept sτ (fun c j h => hGσ2 c j (show ¬ ((56 ≤ c ∧ c < 58) ∨ (c = 60 ∧ (j = 5 ∨ j = 6 ∨ j = 8 ∨ j = 10 ∨ j = 11)) ∨ (61 ≤ c ∧ c < 71) ∨ (24 ≤ c ∧ c < 29)) from by omega)) (fun j => hGσ2 104 j (show ¬ ((56 ≤ 104 ∧ 104 < 58) ∨ (104 = 60 ∧ (j = 5 ∨ j = 6 ∨ j = 8 ∨ j = 10 ∨ j = 11)) ∨ (61 ≤ 104 ∧ 104 < 71) ∨ (24 ≤ 104 ∧ 104 < 29)) from by omega)) (fun j => hGσ2 105 j (show ¬ ((56 ≤ 105 ∧ 105 < 58) ∨ (105 = 60 ∧ (j = 5 ∨ j = 6 ∨ j = 8 ∨ j = 10 ∨ j = 11)) ∨ (61 ≤ 105 ∧ 105 < 71) ∨ (24 ≤ 105 ∧ 105 < 29)) from by omega))
  have tσ2 : TT σ2 := TT_kept tτ (fun c j h => hGσ2 c j (show ¬ ((56 ≤ c ∧ c < 58) ∨ (c = 60 ∧ (j = 5 ∨ j = 6 ∨ j = 8 ∨ j = 10 ∨ j = 11)) ∨ (61 ≤ c ∧ c < 71) ∨ (24 ≤ c ∧ c < 29)) from by omega)) (fun j h => hGσ2 89 j (show ¬ ((56 ≤ 89 ∧ 89 < 58) ∨ (89 = 60 ∧ (j = 5 ∨ j = 6 ∨ j = 8 ∨ j = 10 ∨ j = 11)) ∨ (61 ≤ 89 ∧ 89 < 71) ∨ (24 ≤ 89 ∧ 89 < 29)) from by omega))
  refine j_pop (pc := 747) dL_law_747 rfl ?_
  refine j_aload_n (pc := 748) dL_law_748 rfl rfl ?_
  refine j_callV (pc := 749) (As := []) (st := []) (c_X12_adopt hM σ2 hIσ2 mσ2) mv_L_102 rfl rfl rfl (a_88 hM) dL_law_749 ⟨Nat.le_of_ble_eq_true rfl, Nat.le_of_ble_eq_true rfl⟩ ⟨Nat.le_of_ble_eq_true rfl, Nat.le_of_ble_eq_true rfl⟩ rfl (Nat.le_of_ble_eq_true rfl) rfl (fun z7 σ8 hz7 => ?_)
  obtain ⟨r10, rfl, hr10, hIσ8, hGσ8, q9_0, q9_1, q9_2, q9_3, q9_4, q9_5⟩ := hz7
  replace q9_0 : mI σ8 := q9_0
  replace q9_1 : σ8 89 93 = σ2 89 93 := q9_1
  have y11 : σ2 89 93 = τ 89 93 := (hGσ2 89 93 (show ¬ ((56 ≤ 89 ∧ 89 < 58) ∨ (89 = 60 ∧ (93 = 5 ∨ 93 = 6 ∨ 93 = 8 ∨ 93 = 10 ∨ 93 = 11)) ∨ (61 ≤ 89 ∧ 89 < 71) ∨ (24 ≤ 89 ∧ 89 < 29)) from by omega))
  have f12 : (0 : Int) ≤ τ 89 93 ∧ τ 89 93 ≤ 999 := hIτ 89 93
  replace q9_2 : σ8 89 94 = σ2 89 94 := q9_2
  have y13 : σ2 89 94 = τ 89 94 := (hGσ2 89 94 (show ¬ ((56 ≤ 89 ∧ 89 < 58) ∨ (89 = 60 ∧ (94 = 5 ∨ 94 = 6 ∨ 94 = 8 ∨ 94 = 10 ∨ 94 = 11)) ∨ (61 ≤ 89 ∧ 89 < 71) ∨ (24 ≤ 89 ∧ 89 < 29)) from by omega))
  have f14 : (-2147483648 : Int) ≤ τ 89 94 ∧ τ 89 94 ≤ 2147483647 := hIτ 89 94
  replace q9_3 : σ8 89 95 = σ2 89 95 := q9_3
  have y15 : σ2 89 95 = τ 89 95 := (hGσ2 89 95 (show ¬ ((56 ≤ 89 ∧ 89 < 58) ∨ (89 = 60 ∧ (95 = 5 ∨ 95 = 6 ∨ 95 = 8 ∨ 95 = 10 ∨ 95 = 11)) ∨ (61 ≤ 89 ∧ 89 < 71) ∨ (24 ≤ 89 ∧ 89 < 29)) from by omega))
  have f16 : (0 : Int) ≤ τ 89 95 ∧ τ 89 95 ≤ 999 := hIτ 89 95
  replace q9_4 : σ8 89 96 = σ2 89 96 := q9_4
  have y17 : σ2 89 96 = τ 89 96 := (hGσ2 89 96 (show ¬ ((56 ≤ 89 ∧ 89 < 58) ∨ (89 = 60 ∧ (96 = 5 ∨ 96 = 6 ∨ 96 = 8 ∨ 96 = 10 ∨ 96 = 11)) ∨ (61 ≤ 89 ∧ 89 < 71) ∨ (24 ≤ 89 ∧ 89 < 29)) from by omega))
  have f18 : (-2147483648 : Int) ≤ τ 89 96 ∧ τ 89 96 ≤ 2147483647 := hIτ 89 96
  replace q9_5 : ∀ rk : Nat → Int, MOB rk 0 σ2 → WOK (wM σ2) → ∃ p v : Int, BMS (wM σ2) rk (pt (kk (wM σ2))) p v ∧ ((p = -4 ∧ r10 = -4 ∧ ∀ j : Nat, j < 100 → σ8 89 j = σ2 89 j) ∨ (¬ p = -4 ∧ gM 0 σ8 = lay (wM σ2) p ∧ (∀ f : Int, 1 ≤ f → f ≤ 40 → σ8 89 (41 + f).toNat = 0) ∧ (∀ x : Int, 1 ≤ x → x ≤ 10 → σ8 89 (82 + x).toNat = rk x.toNat - csz (lay (wM σ2) p) x 40) ∧ r10 = cnt (lay (wM σ2) p) (σ2 91 0).toNat)) := q9_5
  have y19 : σ2 91 0 = τ 91 0 := (hGσ2 91 0 (show ¬ ((56 ≤ 91 ∧ 91 < 58) ∨ (91 = 60 ∧ (0 = 5 ∨ 0 = 6 ∨ 0 = 8 ∨ 0 = 10 ∨ 0 = 11)) ∨ (61 ≤ 91 ∧ 91 < 71) ∨ (24 ≤ 91 ∧ 91 < 29)) from by omega))
  have f20 : (1 : Int) ≤ τ 91 0 ∧ τ 91 0 ≤ 40 := hIτ 91 0
  refine j_st (st' := [vI r10]) rfl ?_
  have y21 : σ8 10 10 = τ 10 10 := ((hGσ8 10 10 (show ¬ ((10 = 88 ∧ (10 = 19 ∨ 10 = 20 ∨ 10 = 21 ∨ 10 = 22 ∨ 10 = 23 ∨ 10 = 24 ∨ 10 = 25 ∨ 10 = 26 ∨ 10 = 27)) ∨ (10 = 89 ∧ (10 < 100 ∨ 300 ≤ 10))) from by omega))).trans (hGσ2 10 10 (show ¬ ((56 ≤ 10 ∧ 10 < 58) ∨ (10 = 60 ∧ (10 = 5 ∨ 10 = 6 ∨ 10 = 8 ∨ 10 = 10 ∨ 10 = 11)) ∨ (61 ≤ 10 ∧ 10 < 71) ∨ (24 ≤ 10 ∧ 10 < 29)) from by omega))
  have bσ8 : BY σ8 := BY_kept bσ2 (fun j => hGσ8 11 j (show ¬ ((11 = 88 ∧ (j = 19 ∨ j = 20 ∨ j = 21 ∨ j = 22 ∨ j = 23 ∨ j = 24 ∨ j = 25 ∨ j = 26 ∨ j = 27)) ∨ (11 = 89 ∧ (j < 100 ∨ 300 ≤ j))) from by omega)) (fun j => hGσ8 98 j (show ¬ ((98 = 88 ∧ (j = 19 ∨ j = 20 ∨ j = 21 ∨ j = 22 ∨ j = 23 ∨ j = 24 ∨ j = 25 ∨ j = 26 ∨ j = 27)) ∨ (98 = 89 ∧ (j < 100 ∨ 300 ≤ j))) from by omega)) (by omega)
  have mσ8 : mI σ8 := q9_0
  have sσ8 : SR σ8 := SR_kept sσ2 (fun c j h => hGσ8 c j (show ¬ ((c = 88 ∧ (j = 19 ∨ j = 20 ∨ j = 21 ∨ j = 22 ∨ j = 23 ∨ j = 24 ∨ j = 25 ∨ j = 26 ∨ j = 27)) ∨ (c = 89 ∧ (j < 100 ∨ 300 ≤ j))) from by omega)) (fun j => hGσ8 104 j (show ¬ ((104 = 88 ∧ (j = 19 ∨ j = 20 ∨ j = 21 ∨ j = 22 ∨ j = 23 ∨ j = 24 ∨ j = 25 ∨ j = 26 ∨ j = 27)) ∨ (104 = 89 ∧ (j < 100 ∨ 300 ≤ j))) from by omega)) (fun j => hGσ8 105 j (show ¬ ((105 = 88 ∧ (j = 19 ∨ j = 20 ∨ j = 21 ∨ j = 22 ∨ j = 23 ∨ j = 24 ∨ j = 25 ∨ j = 26 ∨ j = 27)) ∨ (105 = 89 ∧ (j < 100 ∨ 300 ≤ j))) from by omega))
  have ht9 : (1 : Int) ≤ τ 91 0 ∧ τ 91 0 ≤ 40 := hIτ 91 0
  have st9 := ST_adopt stτ hIτ q3_0 q9_5 (fun c j h1 h2 h3 => hGσ2 c j (show ¬ ((56 ≤ c ∧ c < 58) ∨ (c = 60 ∧ (j = 5 ∨ j = 6 ∨ j = 8 ∨ j = 10 ∨ j = 11)) ∨ (61 ≤ c ∧ c < 71) ∨ (24 ≤ c ∧ c < 29)) from by omega)) (fun c j h1 h2 => hGσ8 c j (show ¬ ((c = 88 ∧ (j = 19 ∨ j = 20 ∨ j = 21 ∨ j = 22 ∨ j = 23 ∨ j = 24 ∨ j = 25 ∨ j = 26 ∨ j = 27)) ∨ (c = 89 ∧ (j < 100 ∨ 300 ≤ j))) from by omega))
  have rr9 := st9.2
  clear q3_0 q9_5
  refine j_pop (pc := 752) dL_law_752 rfl ?_
  refine j_goto (pc := 753) (tgt := 1352) dL_law_753 rfl ?_
  have y22 : σ8 10 10 = τ 10 10 := ((hGσ8 10 10 (show ¬ ((10 = 88 ∧ (10 = 19 ∨ 10 = 20 ∨ 10 = 21 ∨ 10 = 22 ∨ 10 = 23 ∨ 10 = 24 ∨ 10 = 25 ∨ 10 = 26 ∨ 10 = 27)) ∨ (10 = 89 ∧ (10 < 100 ∨ 300 ≤ 10))) from by omega))).trans (hGσ2 10 10 (show ¬ ((56 ≤ 10 ∧ 10 < 58) ∨ (10 = 60 ∧ (10 = 5 ∨ 10 = 6 ∨ 10 = 8 ∨ 10 = 10 ∨ 10 = 11)) ∨ (61 ≤ 10 ∧ 10 < 71) ∨ (24 ≤ 10 ∧ 10 < 29)) from by omega))
  have y23 : σ8 88 12 = τ 88 12 := ((hGσ8 88 12 (show ¬ ((88 = 88 ∧ (12 = 19 ∨ 12 = 20 ∨ 12 = 21 ∨ 12 = 22 ∨ 12 = 23 ∨ 12 = 24 ∨ 12 = 25 ∨ 12 = 26 ∨ 12 = 27)) ∨ (88 = 89 ∧ (12 < 100 ∨ 300 ≤ 12))) from by omega))).trans (hGσ2 88 12 (show ¬ ((56 ≤ 88 ∧ 88 < 58) ∨ (88 = 60 ∧ (12 = 5 ∨ 12 = 6 ∨ 12 = 8 ∨ 12 = 10 ∨ 12 = 11)) ∨ (61 ≤ 88 ∧ 88 < 71) ∨ (24 ≤ 88 ∧ 88 < 29)) from by omega))
  have f24 : (0 : Int) ≤ τ 88 12 ∧ τ 88 12 ≤ 400 := hIτ 88 12
  have y25 : σ8 0 13 = τ 0 13 := ((hGσ8 0 13 (show ¬ ((0 = 88 ∧ (13 = 19 ∨ 13 = 20 ∨ 13 = 21 ∨ 13 = 22 ∨ 13 = 23 ∨ 13 = 24 ∨ 13 = 25 ∨ 13 = 26 ∨ 13 = 27)) ∨ (0 = 89 ∧ (13 < 100 ∨ 300 ≤ 13))) from by omega))).trans (hGσ2 0 13 (show ¬ ((56 ≤ 0 ∧ 0 < 58) ∨ (0 = 60 ∧ (13 = 5 ∨ 13 = 6 ∨ 13 = 8 ∨ 13 = 10 ∨ 13 = 11)) ∨ (61 ≤ 0 ∧ 0 < 71) ∨ (24 ≤ 0 ∧ 0 < 29)) from by omega))
  have f26 : (-2147483648 : Int) ≤ τ 0 13 ∧ τ 0 13 ≤ 2147483647 := hIτ 0 13
  have y27 : σ8 88 17 = τ 88 17 := ((hGσ8 88 17 (show ¬ ((88 = 88 ∧ (17 = 19 ∨ 17 = 20 ∨ 17 = 21 ∨ 17 = 22 ∨ 17 = 23 ∨ 17 = 24 ∨ 17 = 25 ∨ 17 = 26 ∨ 17 = 27)) ∨ (88 = 89 ∧ (17 < 100 ∨ 300 ≤ 17))) from by omega))).trans (hGσ2 88 17 (show ¬ ((56 ≤ 88 ∧ 88 < 58) ∨ (88 = 60 ∧ (17 = 5 ∨ 17 = 6 ∨ 17 = 8 ∨ 17 = 10 ∨ 17 = 11)) ∨ (61 ≤ 88 ∧ 88 < 71) ∨ (24 ≤ 88 ∧ 88 < 29)) from by omega))
  have f28 : (0 : Int) ≤ τ 88 17 ∧ τ 88 17 ≤ 5 := hIτ 88 17
  have y29 : σ8 31 6 = τ 31 6 := ((hGσ8 31 6 (show ¬ ((31 = 88 ∧ (6 = 19 ∨ 6 = 20 ∨ 6 = 21 ∨ 6 = 22 ∨ 6 = 23 ∨ 6 = 24 ∨ 6 = 25 ∨ 6 = 26 ∨ 6 = 27)) ∨ (31 = 89 ∧ (6 < 100 ∨ 300 ≤ 6))) from by omega))).trans (hGσ2 31 6 (show ¬ ((56 ≤ 31 ∧ 31 < 58) ∨ (31 = 60 ∧ (6 = 5 ∨ 6 = 6 ∨ 6 = 8 ∨ 6 = 10 ∨ 6 = 11)) ∨ (61 ≤ 31 ∧ 31 < 71) ∨ (24 ≤ 31 ∧ 31 < 29)) from by omega))
  have f30 : (0 : Int) ≤ τ 31 6 ∧ τ 31 6 ≤ 1 := hIτ 31 6
  have y31 : σ8 39 6 = τ 39 6 := ((hGσ8 39 6 (show ¬ ((39 = 88 ∧ (6 = 19 ∨ 6 = 20 ∨ 6 = 21 ∨ 6 = 22 ∨ 6 = 23 ∨ 6 = 24 ∨ 6 = 25 ∨ 6 = 26 ∨ 6 = 27)) ∨ (39 = 89 ∧ (6 < 100 ∨ 300 ≤ 6))) from by omega))).trans (hGσ2 39 6 (show ¬ ((56 ≤ 39 ∧ 39 < 58) ∨ (39 = 60 ∧ (6 = 5 ∨ 6 = 6 ∨ 6 = 8 ∨ 6 = 10 ∨ 6 = 11)) ∨ (61 ≤ 39 ∧ 39 < 71) ∨ (24 ≤ 39 ∧ 39 < 29)) from by omega))
  have f32 : (0 : Int) ≤ τ 39 6 ∧ τ 39 6 ≤ 1 := hIτ 39 6
  have y33 : σ8 90 0 = τ 90 0 := ((hGσ8 90 0 (show ¬ ((90 = 88 ∧ (0 = 19 ∨ 0 = 20 ∨ 0 = 21 ∨ 0 = 22 ∨ 0 = 23 ∨ 0 = 24 ∨ 0 = 25 ∨ 0 = 26 ∨ 0 = 27)) ∨ (90 = 89 ∧ (0 < 100 ∨ 300 ≤ 0))) from by omega))).trans (hGσ2 90 0 (show ¬ ((56 ≤ 90 ∧ 90 < 58) ∨ (90 = 60 ∧ (0 = 5 ∨ 0 = 6 ∨ 0 = 8 ∨ 0 = 10 ∨ 0 = 11)) ∨ (61 ≤ 90 ∧ 90 < 71) ∨ (24 ≤ 90 ∧ 90 < 29)) from by omega))
  have f34 : (0 : Int) ≤ τ 90 0 ∧ τ 90 0 ≤ 1 := hIτ 90 0
  have y35 : σ8 90 1 = τ 90 1 := ((hGσ8 90 1 (show ¬ ((90 = 88 ∧ (1 = 19 ∨ 1 = 20 ∨ 1 = 21 ∨ 1 = 22 ∨ 1 = 23 ∨ 1 = 24 ∨ 1 = 25 ∨ 1 = 26 ∨ 1 = 27)) ∨ (90 = 89 ∧ (1 < 100 ∨ 300 ≤ 1))) from by omega))).trans (hGσ2 90 1 (show ¬ ((56 ≤ 90 ∧ 90 < 58) ∨ (90 = 60 ∧ (1 = 5 ∨ 1 = 6 ∨ 1 = 8 ∨ 1 = 10 ∨ 1 = 11)) ∨ (61 ≤ 90 ∧ 90 < 71) ∨ (24 ≤ 90 ∧ 90 < 29)) from by omega))
  have f36 : (0 : Int) ≤ τ 90 1 ∧ τ 90 1 ≤ 1 := hIτ 90 1
  obtain ⟨t0, t1, t2, t3, t4, t5, t6, t7, t8, t9, t10, t11, t12, t13, t14, t15, t16, t17⟩ := tτ
  have y37 : σ8 29 0 = τ 29 0 := ((hGσ8 29 0 (show ¬ ((29 = 88 ∧ (0 = 19 ∨ 0 = 20 ∨ 0 = 21 ∨ 0 = 22 ∨ 0 = 23 ∨ 0 = 24 ∨ 0 = 25 ∨ 0 = 26 ∨ 0 = 27)) ∨ (29 = 89 ∧ (0 < 100 ∨ 300 ≤ 0))) from by omega))).trans (hGσ2 29 0 (show ¬ ((56 ≤ 29 ∧ 29 < 58) ∨ (29 = 60 ∧ (0 = 5 ∨ 0 = 6 ∨ 0 = 8 ∨ 0 = 10 ∨ 0 = 11)) ∨ (61 ≤ 29 ∧ 29 < 71) ∨ (24 ≤ 29 ∧ 29 < 29)) from by omega))
  have f38 : (0 : Int) ≤ τ 29 0 ∧ τ 29 0 ≤ 999 := hIτ 29 0
  have y39 : σ8 30 0 = τ 30 0 := ((hGσ8 30 0 (show ¬ ((30 = 88 ∧ (0 = 19 ∨ 0 = 20 ∨ 0 = 21 ∨ 0 = 22 ∨ 0 = 23 ∨ 0 = 24 ∨ 0 = 25 ∨ 0 = 26 ∨ 0 = 27)) ∨ (30 = 89 ∧ (0 < 100 ∨ 300 ≤ 0))) from by omega))).trans (hGσ2 30 0 (show ¬ ((56 ≤ 30 ∧ 30 < 58) ∨ (30 = 60 ∧ (0 = 5 ∨ 0 = 6 ∨ 0 = 8 ∨ 0 = 10 ∨ 0 = 11)) ∨ (61 ≤ 30 ∧ 30 < 71) ∨ (24 ≤ 30 ∧ 30 < 29)) from by omega))
  have f40 : (-2147483648 : Int) ≤ τ 30 0 ∧ τ 30 0 ≤ 2147483647 := hIτ 30 0
  have y41 : σ8 29 1 = τ 29 1 := ((hGσ8 29 1 (show ¬ ((29 = 88 ∧ (1 = 19 ∨ 1 = 20 ∨ 1 = 21 ∨ 1 = 22 ∨ 1 = 23 ∨ 1 = 24 ∨ 1 = 25 ∨ 1 = 26 ∨ 1 = 27)) ∨ (29 = 89 ∧ (1 < 100 ∨ 300 ≤ 1))) from by omega))).trans (hGσ2 29 1 (show ¬ ((56 ≤ 29 ∧ 29 < 58) ∨ (29 = 60 ∧ (1 = 5 ∨ 1 = 6 ∨ 1 = 8 ∨ 1 = 10 ∨ 1 = 11)) ∨ (61 ≤ 29 ∧ 29 < 71) ∨ (24 ≤ 29 ∧ 29 < 29)) from by omega))
  have f42 : (0 : Int) ≤ τ 29 1 ∧ τ 29 1 ≤ 999 := hIτ 29 1
  have y43 : σ8 30 1 = τ 30 1 := ((hGσ8 30 1 (show ¬ ((30 = 88 ∧ (1 = 19 ∨ 1 = 20 ∨ 1 = 21 ∨ 1 = 22 ∨ 1 = 23 ∨ 1 = 24 ∨ 1 = 25 ∨ 1 = 26 ∨ 1 = 27)) ∨ (30 = 89 ∧ (1 < 100 ∨ 300 ≤ 1))) from by omega))).trans (hGσ2 30 1 (show ¬ ((56 ≤ 30 ∧ 30 < 58) ∨ (30 = 60 ∧ (1 = 5 ∨ 1 = 6 ∨ 1 = 8 ∨ 1 = 10 ∨ 1 = 11)) ∨ (61 ≤ 30 ∧ 30 < 71) ∨ (24 ≤ 30 ∧ 30 < 29)) from by omega))
  have f44 : (-2147483648 : Int) ≤ τ 30 1 ∧ τ 30 1 ≤ 2147483647 := hIτ 30 1
  have y45 : σ8 37 0 = τ 37 0 := ((hGσ8 37 0 (show ¬ ((37 = 88 ∧ (0 = 19 ∨ 0 = 20 ∨ 0 = 21 ∨ 0 = 22 ∨ 0 = 23 ∨ 0 = 24 ∨ 0 = 25 ∨ 0 = 26 ∨ 0 = 27)) ∨ (37 = 89 ∧ (0 < 100 ∨ 300 ≤ 0))) from by omega))).trans (hGσ2 37 0 (show ¬ ((56 ≤ 37 ∧ 37 < 58) ∨ (37 = 60 ∧ (0 = 5 ∨ 0 = 6 ∨ 0 = 8 ∨ 0 = 10 ∨ 0 = 11)) ∨ (61 ≤ 37 ∧ 37 < 71) ∨ (24 ≤ 37 ∧ 37 < 29)) from by omega))
  have f46 : (0 : Int) ≤ τ 37 0 ∧ τ 37 0 ≤ 999 := hIτ 37 0
  have y47 : σ8 38 0 = τ 38 0 := ((hGσ8 38 0 (show ¬ ((38 = 88 ∧ (0 = 19 ∨ 0 = 20 ∨ 0 = 21 ∨ 0 = 22 ∨ 0 = 23 ∨ 0 = 24 ∨ 0 = 25 ∨ 0 = 26 ∨ 0 = 27)) ∨ (38 = 89 ∧ (0 < 100 ∨ 300 ≤ 0))) from by omega))).trans (hGσ2 38 0 (show ¬ ((56 ≤ 38 ∧ 38 < 58) ∨ (38 = 60 ∧ (0 = 5 ∨ 0 = 6 ∨ 0 = 8 ∨ 0 = 10 ∨ 0 = 11)) ∨ (61 ≤ 38 ∧ 38 < 71) ∨ (24 ≤ 38 ∧ 38 < 29)) from by omega))
  have f48 : (-2147483648 : Int) ≤ τ 38 0 ∧ τ 38 0 ≤ 2147483647 := hIτ 38 0
  have y49 : σ8 37 1 = τ 37 1 := ((hGσ8 37 1 (show ¬ ((37 = 88 ∧ (1 = 19 ∨ 1 = 20 ∨ 1 = 21 ∨ 1 = 22 ∨ 1 = 23 ∨ 1 = 24 ∨ 1 = 25 ∨ 1 = 26 ∨ 1 = 27)) ∨ (37 = 89 ∧ (1 < 100 ∨ 300 ≤ 1))) from by omega))).trans (hGσ2 37 1 (show ¬ ((56 ≤ 37 ∧ 37 < 58) ∨ (37 = 60 ∧ (1 = 5 ∨ 1 = 6 ∨ 1 = 8 ∨ 1 = 10 ∨ 1 = 11)) ∨ (61 ≤ 37 ∧ 37 < 71) ∨ (24 ≤ 37 ∧ 37 < 29)) from by omega))
  have f50 : (0 : Int) ≤ τ 37 1 ∧ τ 37 1 ≤ 999 := hIτ 37 1
  have y51 : σ8 38 1 = τ 38 1 := ((hGσ8 38 1 (show ¬ ((38 = 88 ∧ (1 = 19 ∨ 1 = 20 ∨ 1 = 21 ∨ 1 = 22 ∨ 1 = 23 ∨ 1 = 24 ∨ 1 = 25 ∨ 1 = 26 ∨ 1 = 27)) ∨ (38 = 89 ∧ (1 < 100 ∨ 300 ≤ 1))) from by omega))).trans (hGσ2 38 1 (show ¬ ((56 ≤ 38 ∧ 38 < 58) ∨ (38 = 60 ∧ (1 = 5 ∨ 1 = 6 ∨ 1 = 8 ∨ 1 = 10 ∨ 1 = 11)) ∨ (61 ≤ 38 ∧ 38 < 71) ∨ (24 ≤ 38 ∧ 38 < 29)) from by omega))
  have f52 : (-2147483648 : Int) ≤ τ 38 1 ∧ τ 38 1 ≤ 2147483647 := hIτ 38 1
  have y53 : σ8 45 0 = τ 45 0 := ((hGσ8 45 0 (show ¬ ((45 = 88 ∧ (0 = 19 ∨ 0 = 20 ∨ 0 = 21 ∨ 0 = 22 ∨ 0 = 23 ∨ 0 = 24 ∨ 0 = 25 ∨ 0 = 26 ∨ 0 = 27)) ∨ (45 = 89 ∧ (0 < 100 ∨ 300 ≤ 0))) from by omega))).trans (hGσ2 45 0 (show ¬ ((56 ≤ 45 ∧ 45 < 58) ∨ (45 = 60 ∧ (0 = 5 ∨ 0 = 6 ∨ 0 = 8 ∨ 0 = 10 ∨ 0 = 11)) ∨ (61 ≤ 45 ∧ 45 < 71) ∨ (24 ≤ 45 ∧ 45 < 29)) from by omega))
  have f54 : (0 : Int) ≤ τ 45 0 ∧ τ 45 0 ≤ 999 := hIτ 45 0
  have y55 : σ8 46 0 = τ 46 0 := ((hGσ8 46 0 (show ¬ ((46 = 88 ∧ (0 = 19 ∨ 0 = 20 ∨ 0 = 21 ∨ 0 = 22 ∨ 0 = 23 ∨ 0 = 24 ∨ 0 = 25 ∨ 0 = 26 ∨ 0 = 27)) ∨ (46 = 89 ∧ (0 < 100 ∨ 300 ≤ 0))) from by omega))).trans (hGσ2 46 0 (show ¬ ((56 ≤ 46 ∧ 46 < 58) ∨ (46 = 60 ∧ (0 = 5 ∨ 0 = 6 ∨ 0 = 8 ∨ 0 = 10 ∨ 0 = 11)) ∨ (61 ≤ 46 ∧ 46 < 71) ∨ (24 ≤ 46 ∧ 46 < 29)) from by omega))
  have f56 : (-2147483648 : Int) ≤ τ 46 0 ∧ τ 46 0 ≤ 2147483647 := hIτ 46 0
  have y57 : σ8 45 1 = τ 45 1 := ((hGσ8 45 1 (show ¬ ((45 = 88 ∧ (1 = 19 ∨ 1 = 20 ∨ 1 = 21 ∨ 1 = 22 ∨ 1 = 23 ∨ 1 = 24 ∨ 1 = 25 ∨ 1 = 26 ∨ 1 = 27)) ∨ (45 = 89 ∧ (1 < 100 ∨ 300 ≤ 1))) from by omega))).trans (hGσ2 45 1 (show ¬ ((56 ≤ 45 ∧ 45 < 58) ∨ (45 = 60 ∧ (1 = 5 ∨ 1 = 6 ∨ 1 = 8 ∨ 1 = 10 ∨ 1 = 11)) ∨ (61 ≤ 45 ∧ 45 < 71) ∨ (24 ≤ 45 ∧ 45 < 29)) from by omega))
  have f58 : (0 : Int) ≤ τ 45 1 ∧ τ 45 1 ≤ 999 := hIτ 45 1
  have y59 : σ8 46 1 = τ 46 1 := ((hGσ8 46 1 (show ¬ ((46 = 88 ∧ (1 = 19 ∨ 1 = 20 ∨ 1 = 21 ∨ 1 = 22 ∨ 1 = 23 ∨ 1 = 24 ∨ 1 = 25 ∨ 1 = 26 ∨ 1 = 27)) ∨ (46 = 89 ∧ (1 < 100 ∨ 300 ≤ 1))) from by omega))).trans (hGσ2 46 1 (show ¬ ((56 ≤ 46 ∧ 46 < 58) ∨ (46 = 60 ∧ (1 = 5 ∨ 1 = 6 ∨ 1 = 8 ∨ 1 = 10 ∨ 1 = 11)) ∨ (61 ≤ 46 ∧ 46 < 71) ∨ (24 ≤ 46 ∧ 46 < 29)) from by omega))
  have f60 : (-2147483648 : Int) ≤ τ 46 1 ∧ τ 46 1 ≤ 2147483647 := hIτ 46 1
  have u193 : σ8 89 193 = τ 89 193 := ((hGσ8 89 193 (show ¬ ((89 = 88 ∧ (193 = 19 ∨ 193 = 20 ∨ 193 = 21 ∨ 193 = 22 ∨ 193 = 23 ∨ 193 = 24 ∨ 193 = 25 ∨ 193 = 26 ∨ 193 = 27)) ∨ (89 = 89 ∧ (193 < 100 ∨ 300 ≤ 193))) from by omega))).trans (hGσ2 89 193 (show ¬ ((56 ≤ 89 ∧ 89 < 58) ∨ (89 = 60 ∧ (193 = 5 ∨ 193 = 6 ∨ 193 = 8 ∨ 193 = 10 ∨ 193 = 11)) ∨ (61 ≤ 89 ∧ 89 < 71) ∨ (24 ≤ 89 ∧ 89 < 29)) from by omega))
  have u194 : σ8 89 194 = τ 89 194 := ((hGσ8 89 194 (show ¬ ((89 = 88 ∧ (194 = 19 ∨ 194 = 20 ∨ 194 = 21 ∨ 194 = 22 ∨ 194 = 23 ∨ 194 = 24 ∨ 194 = 25 ∨ 194 = 26 ∨ 194 = 27)) ∨ (89 = 89 ∧ (194 < 100 ∨ 300 ≤ 194))) from by omega))).trans (hGσ2 89 194 (show ¬ ((56 ≤ 89 ∧ 89 < 58) ∨ (89 = 60 ∧ (194 = 5 ∨ 194 = 6 ∨ 194 = 8 ∨ 194 = 10 ∨ 194 = 11)) ∨ (61 ≤ 89 ∧ 89 < 71) ∨ (24 ≤ 89 ∧ 89 < 29)) from by omega))
  have u195 : σ8 89 195 = τ 89 195 := ((hGσ8 89 195 (show ¬ ((89 = 88 ∧ (195 = 19 ∨ 195 = 20 ∨ 195 = 21 ∨ 195 = 22 ∨ 195 = 23 ∨ 195 = 24 ∨ 195 = 25 ∨ 195 = 26 ∨ 195 = 27)) ∨ (89 = 89 ∧ (195 < 100 ∨ 300 ≤ 195))) from by omega))).trans (hGσ2 89 195 (show ¬ ((56 ≤ 89 ∧ 89 < 58) ∨ (89 = 60 ∧ (195 = 5 ∨ 195 = 6 ∨ 195 = 8 ∨ 195 = 10 ∨ 195 = 11)) ∨ (61 ≤ 89 ∧ 89 < 71) ∨ (24 ≤ 89 ∧ 89 < 29)) from by omega))
  have u196 : σ8 89 196 = τ 89 196 := ((hGσ8 89 196 (show ¬ ((89 = 88 ∧ (196 = 19 ∨ 196 = 20 ∨ 196 = 21 ∨ 196 = 22 ∨ 196 = 23 ∨ 196 = 24 ∨ 196 = 25 ∨ 196 = 26 ∨ 196 = 27)) ∨ (89 = 89 ∧ (196 < 100 ∨ 300 ≤ 196))) from by omega))).trans (hGσ2 89 196 (show ¬ ((56 ≤ 89 ∧ 89 < 58) ∨ (89 = 60 ∧ (196 = 5 ∨ 196 = 6 ∨ 196 = 8 ∨ 196 = 10 ∨ 196 = 11)) ∨ (61 ≤ 89 ∧ 89 < 71) ∨ (24 ≤ 89 ∧ 89 < 29)) from by omega))
  have u293 : σ8 89 293 = τ 89 293 := ((hGσ8 89 293 (show ¬ ((89 = 88 ∧ (293 = 19 ∨ 293 = 20 ∨ 293 = 21 ∨ 293 = 22 ∨ 293 = 23 ∨ 293 = 24 ∨ 293 = 25 ∨ 293 = 26 ∨ 293 = 27)) ∨ (89 = 89 ∧ (293 < 100 ∨ 300 ≤ 293))) from by omega))).trans (hGσ2 89 293 (show ¬ ((56 ≤ 89 ∧ 89 < 58) ∨ (89 = 60 ∧ (293 = 5 ∨ 293 = 6 ∨ 293 = 8 ∨ 293 = 10 ∨ 293 = 11)) ∨ (61 ≤ 89 ∧ 89 < 71) ∨ (24 ≤ 89 ∧ 89 < 29)) from by omega))
  have u294 : σ8 89 294 = τ 89 294 := ((hGσ8 89 294 (show ¬ ((89 = 88 ∧ (294 = 19 ∨ 294 = 20 ∨ 294 = 21 ∨ 294 = 22 ∨ 294 = 23 ∨ 294 = 24 ∨ 294 = 25 ∨ 294 = 26 ∨ 294 = 27)) ∨ (89 = 89 ∧ (294 < 100 ∨ 300 ≤ 294))) from by omega))).trans (hGσ2 89 294 (show ¬ ((56 ≤ 89 ∧ 89 < 58) ∨ (89 = 60 ∧ (294 = 5 ∨ 294 = 6 ∨ 294 = 8 ∨ 294 = 10 ∨ 294 = 11)) ∨ (61 ≤ 89 ∧ 89 < 71) ∨ (24 ≤ 89 ∧ 89 < 29)) from by omega))
  have u295 : σ8 89 295 = τ 89 295 := ((hGσ8 89 295 (show ¬ ((89 = 88 ∧ (295 = 19 ∨ 295 = 20 ∨ 295 = 21 ∨ 295 = 22 ∨ 295 = 23 ∨ 295 = 24 ∨ 295 = 25 ∨ 295 = 26 ∨ 295 = 27)) ∨ (89 = 89 ∧ (295 < 100 ∨ 300 ≤ 295))) from by omega))).trans (hGσ2 89 295 (show ¬ ((56 ≤ 89 ∧ 89 < 58) ∨ (89 = 60 ∧ (295 = 5 ∨ 295 = 6 ∨ 295 = 8 ∨ 295 = 10 ∨ 295 = 11)) ∨ (61 ≤ 89 ∧ 89 < 71) ∨ (24 ≤ 89 ∧ 89 < 29)) from by omega))
  have u296 : σ8 89 296 = τ 89 296 := ((hGσ8 89 296 (show ¬ ((89 = 88 ∧ (296 = 19 ∨ 296 = 20 ∨ 296 = 21 ∨ 296 = 22 ∨ 296 = 23 ∨ 296 = 24 ∨ 296 = 25 ∨ 296 = 26 ∨ 296 = 27)) ∨ (89 = 89 ∧ (296 < 100 ∨ 300 ≤ 296))) from by omega))).trans (hGσ2 89 296 (show ¬ ((56 ≤ 89 ∧ 89 < 58) ∨ (89 = 60 ∧ (296 = 5 ∨ 296 = 6 ∨ 296 = 8 ∨ 296 = 10 ∨ 296 = 11)) ∨ (61 ≤ 89 ∧ 89 < 71) ∨ (24 ≤ 89 ∧ 89 < 29)) from by omega))
  exact K σ8 hIσ8 ⟨mσ8, by omega, sσ8, bσ8, by omega, by omega, by omega, ⟨by clear t1 t2 t3 t5 t6 t7 t9 t10 t11 t12 t13 t14 t15 t16 t17 q9_2 q9_3 q9_4; omega, by clear t0 t2 t3 t4 t6 t7 t8 t10 t11 t12 t13 t14 t15 t16 t17 q9_1 q9_3 q9_4; omega, by clear t0 t1 t3 t4 t5 t7 t8 t9 t11 t12 t13 t14 t15 t16 t17 q9_1 q9_2 q9_4; omega, by clear t0 t1 t2 t4 t5 t6 t8 t9 t10 t12 t13 t14 t15 t16 t17 q9_1 q9_2 q9_3; omega, by clear t1 t2 t3 t5 t6 t7 t9 t10 t11 t12 t13 t14 t15 t16 t17 q9_1 q9_2 q9_3 q9_4; omega, by clear t0 t2 t3 t4 t6 t7 t8 t10 t11 t12 t13 t14 t15 t16 t17 q9_1 q9_2 q9_3 q9_4; omega, by clear t0 t1 t3 t4 t5 t7 t8 t9 t11 t12 t13 t14 t15 t16 t17 q9_1 q9_2 q9_3 q9_4; omega, by clear t0 t1 t2 t4 t5 t6 t8 t9 t10 t12 t13 t14 t15 t16 t17 q9_1 q9_2 q9_3 q9_4; omega, by clear t1 t2 t3 t5 t6 t7 t9 t10 t11 t12 t13 t14 t15 t16 t17 q9_1 q9_2 q9_3 q9_4; omega, by clear t0 t2 t3 t4 t6 t7 t8 t10 t11 t12 t13 t14 t15 t16 t17 q9_1 q9_2 q9_3 q9_4; omega, by clear t0 t1 t3 t4 t5 t7 t8 t9 t11 t12 t13 t14 t15 t16 t17 q9_1 q9_2 q9_3 q9_4; omega, by clear t0 t1 t2 t4 t5 t6 t8 t9 t10 t12 t13 t14 t15 t16 t17 q9_1 q9_2 q9_3 q9_4; omega, by clear t2 t3 t6 t7 t10 t11 t13 t15 t17 q9_3 q9_4; omega, by clear t0 t1 t4 t5 t8 t9 t12 t14 t16 q9_1 q9_2; omega, by clear t2 t3 t6 t7 t10 t11 t13 t15 t17 q9_1 q9_2 q9_3 q9_4; omega, by clear t0 t1 t4 t5 t8 t9 t12 t14 t16 q9_1 q9_2 q9_3 q9_4; omega, by clear t2 t3 t6 t7 t10 t11 t13 t15 t17 q9_1 q9_2 q9_3 q9_4; omega, by clear t0 t1 t4 t5 t8 t9 t12 t14 t16 q9_1 q9_2 q9_3 q9_4; omega⟩, st9.1⟩
set_option maxHeartbeats 4000000 in
set_option maxRecDepth 100000 in
theorem w_case_20 {G : tw_G} (hX : tw_isX G) (hM : tw_isM G) {E : List Frame → Array Value → State → State → Prop} (hN : (gN G : Int) ≤ 2560) (i : Int) (hi : 0 ≤ i ∧ i + 5 ≤ (gN G : Int)) (τ : tw_M) (hIτ : tw_I τ) (hL : tw_LI τ) (K : ∀ τ' : tw_M, tw_I τ' → tw_LI τ' → tw_J G tw_ML E 1352 [(0, vR 300), (1, vR 0), (2, vR 88), (3, vI i)] [] τ') : tw_J G tw_ML E 756 [(0, vR 300), (1, vR 0), (2, vR 88), (3, vI i)] [] τ := by
  obtain ⟨mτ, zτ, sτ, bτ, fτ, kτ0, kτ1, tτ, stτ⟩ := hL
  have g9 : (0 : Int) ≤ τ 10 10 ∧ τ 10 10 ≤ 400 := hIτ 10 10
  obtain ⟨v1, ev1⟩ : ∃ v : Int, v = (gxs G (i + 1).toNat).toInt := ⟨_, rfl⟩
  have hv1 : (-2147483648 : Int) ≤ v1 ∧ v1 ≤ 2147483647 := by rw [ev1]; exact i32_in _
  obtain ⟨v2, ev2⟩ : ∃ v : Int, v = (gxs G (i + 2).toNat).toInt := ⟨_, rfl⟩
  have hv2 : (-2147483648 : Int) ≤ v2 ∧ v2 ≤ 2147483647 := by rw [ev2]; exact i32_in _
  obtain ⟨v3, ev3⟩ : ∃ v : Int, v = (gxs G (i + 3).toNat).toInt := ⟨_, rfl⟩
  have hv3 : (-2147483648 : Int) ≤ v3 ∧ v3 ≤ 2147483647 := by rw [ev3]; exact i32_in _
  obtain ⟨v4, ev4⟩ : ∃ v : Int, v = (gxs G (i + 4).toNat).toInt := ⟨_, rfl⟩
  have hv4 : (-2147483648 : Int) ≤ v4 ∧ v4 ≤ 2147483647 := by rw [ev4]; exact i32_in _
  refine j_aload_n (pc := 756) dL_law_756 rfl rfl ?_
  refine j_aload_n (pc := 757) dL_law_757 rfl rfl ?_
  refine j_iload_n (pc := 758) dL_law_758 rfl rfl ?_
  refine j_iconst (pc := 759) dL_law_759 ?_
  refine j_iadd (pc := 760) dL_law_760 ?_
  refine j_scrAt (pc := 761) dL_law_761 (by omega) (by omega) (by omega) ?_
  refine j_topV (show _ = v1 from ev1.symm) ?_
  refine j_callV (pc := 762) (As := [vI v1]) (st := []) (c_X11_drag hX v1 ⟨by omega, by omega⟩ τ hIτ) mv_L_103 rfl rfl rfl (a_0 hX) dL_law_762 ⟨Nat.le_of_ble_eq_true rfl, Nat.le_of_ble_eq_true rfl⟩ ⟨Nat.le_of_ble_eq_true rfl, Nat.le_of_ble_eq_true rfl⟩ rfl (Nat.le_of_ble_eq_true rfl) rfl (fun z1 σ2 hz1 => ?_)
  obtain ⟨r4, rfl, hr4, rfl, -⟩ := hz1
  refine j_st (st' := [vI r4]) rfl ?_
  refine j_pop (pc := 765) dL_law_765 rfl ?_
  refine j_aload_n (pc := 766) dL_law_766 rfl rfl ?_
  refine j_aload_n (pc := 767) dL_law_767 rfl rfl ?_
  refine j_iload_n (pc := 768) dL_law_768 rfl rfl ?_
  refine j_iconst (pc := 769) dL_law_769 ?_
  refine j_iadd (pc := 770) dL_law_770 ?_
  refine j_scrAt (pc := 771) dL_law_771 (by omega) (by omega) (by omega) ?_
  refine j_topV (show _ = v1 from ev1.symm) ?_
  refine j_callV (pc := 772) (As := [vI v1]) (st := []) (c_X12_drag hM v1 ⟨by omega, by omega⟩ τ hIτ) mv_L_106 rfl rfl rfl (a_88 hM) dL_law_772 ⟨Nat.le_of_ble_eq_true rfl, Nat.le_of_ble_eq_true rfl⟩ ⟨Nat.le_of_ble_eq_true rfl, Nat.le_of_ble_eq_true rfl⟩ rfl (Nat.le_of_ble_eq_true rfl) rfl (fun z5 σ6 hz5 => ?_)
  obtain ⟨r8, rfl, hr8, rfl, -⟩ := hz5
  refine j_st (st' := [vI r8]) rfl ?_
  refine j_pop (pc := 775) dL_law_775 rfl ?_
  refine j_goto (pc := 776) (tgt := 1352) dL_law_776 rfl ?_
  exact K τ hIτ ⟨mτ, by omega, sτ, bτ, by omega, by omega, by omega, tτ, stτ⟩
set_option maxHeartbeats 4000000 in
set_option maxRecDepth 100000 in
theorem w_case_21 {G : tw_G} (hX : tw_isX G) (hM : tw_isM G) {E : List Frame → Array Value → State → State → Prop} (hN : (gN G : Int) ≤ 2560) (i : Int) (hi : 0 ≤ i ∧ i + 5 ≤ (gN G : Int)) (τ : tw_M) (hIτ : tw_I τ) (hL : tw_LI τ) (K : ∀ τ' : tw_M, tw_I τ' → tw_LI τ' → tw_J G tw_ML E 1352 [(0, vR 300), (1, vR 0), (2, vR 88), (3, vI i)] [] τ') : tw_J G tw_ML E 779 [(0, vR 300), (1, vR 0), (2, vR 88), (3, vI i)] [] τ := by
  obtain ⟨mτ, zτ, sτ, bτ, fτ, kτ0, kτ1, tτ, stτ⟩ := hL
  have g9 : (0 : Int) ≤ τ 10 10 ∧ τ 10 10 ≤ 400 := hIτ 10 10
  obtain ⟨v1, ev1⟩ : ∃ v : Int, v = (gxs G (i + 1).toNat).toInt := ⟨_, rfl⟩
  have hv1 : (-2147483648 : Int) ≤ v1 ∧ v1 ≤ 2147483647 := by rw [ev1]; exact i32_in _
  obtain ⟨v2, ev2⟩ : ∃ v : Int, v = (gxs G (i + 2).toNat).toInt := ⟨_, rfl⟩
  have hv2 : (-2147483648 : Int) ≤ v2 ∧ v2 ≤ 2147483647 := by rw [ev2]; exact i32_in _
  obtain ⟨v3, ev3⟩ : ∃ v : Int, v = (gxs G (i + 3).toNat).toInt := ⟨_, rfl⟩
  have hv3 : (-2147483648 : Int) ≤ v3 ∧ v3 ≤ 2147483647 := by rw [ev3]; exact i32_in _
  obtain ⟨v4, ev4⟩ : ∃ v : Int, v = (gxs G (i + 4).toNat).toInt := ⟨_, rfl⟩
  have hv4 : (-2147483648 : Int) ≤ v4 ∧ v4 ≤ 2147483647 := by rw [ev4]; exact i32_in _
  refine j_aload_n (pc := 779) dL_law_779 rfl rfl ?_
  refine j_aload_n (pc := 780) dL_law_780 rfl rfl ?_
  refine j_iload_n (pc := 781) dL_law_781 rfl rfl ?_
  refine j_iconst (pc := 782) dL_law_782 ?_
  refine j_iadd (pc := 783) dL_law_783 ?_
  refine j_scrAt (pc := 784) dL_law_784 (by omega) (by omega) (by omega) ?_
  refine j_topV (show _ = v1 from ev1.symm) ?_
  refine j_aload_n (pc := 785) dL_law_785 rfl rfl ?_
  refine j_iload_n (pc := 786) dL_law_786 rfl rfl ?_
  refine j_iconst (pc := 787) dL_law_787 ?_
  refine j_iadd (pc := 788) dL_law_788 ?_
  refine j_scrAt (pc := 789) dL_law_789 (by omega) (by omega) (by omega) ?_
  refine j_topV (show _ = v2 from ev2.symm) ?_
  refine j_callV (pc := 790) (As := [vI v1, vI v2]) (st := []) (c_X11_slings hX v1 ⟨by omega, by omega⟩ v2 ⟨by omega, by omega⟩ τ hIτ) mv_L_107 rfl rfl rfl (a_0 hX) dL_law_790 ⟨Nat.le_of_ble_eq_true rfl, Nat.le_of_ble_eq_true rfl⟩ ⟨Nat.le_of_ble_eq_true rfl, Nat.le_of_ble_eq_true rfl⟩ rfl (Nat.le_of_ble_eq_true rfl) rfl (fun z1 σ2 hz1 => ?_)
  obtain ⟨r4, rfl, hr4, rfl, -⟩ := hz1
  refine j_st (st' := [vI r4]) rfl ?_
  refine j_pop (pc := 793) dL_law_793 rfl ?_
  refine j_aload_n (pc := 794) dL_law_794 rfl rfl ?_
  refine j_aload_n (pc := 795) dL_law_795 rfl rfl ?_
  refine j_iload_n (pc := 796) dL_law_796 rfl rfl ?_
  refine j_iconst (pc := 797) dL_law_797 ?_
  refine j_iadd (pc := 798) dL_law_798 ?_
  refine j_scrAt (pc := 799) dL_law_799 (by omega) (by omega) (by omega) ?_
  refine j_topV (show _ = v1 from ev1.symm) ?_
  refine j_aload_n (pc := 800) dL_law_800 rfl rfl ?_
  refine j_iload_n (pc := 801) dL_law_801 rfl rfl ?_
  refine j_iconst (pc := 802) dL_law_802 ?_
  refine j_iadd (pc := 803) dL_law_803 ?_
  refine j_scrAt (pc := 804) dL_law_804 (by omega) (by omega) (by omega) ?_
  refine j_topV (show _ = v2 from ev2.symm) ?_
  refine j_callV (pc := 805) (As := [vI v1, vI v2]) (st := []) (c_X12_slings hM v1 ⟨by omega, by omega⟩ v2 ⟨by omega, by omega⟩ τ hIτ) mv_L_110 rfl rfl rfl (a_88 hM) dL_law_805 ⟨Nat.le_of_ble_eq_true rfl, Nat.le_of_ble_eq_true rfl⟩ ⟨Nat.le_of_ble_eq_true rfl, Nat.le_of_ble_eq_true rfl⟩ rfl (Nat.le_of_ble_eq_true rfl) rfl (fun z5 σ6 hz5 => ?_)
  obtain ⟨r8, rfl, hr8, rfl, -⟩ := hz5
  refine j_st (st' := [vI r8]) rfl ?_
  refine j_pop (pc := 808) dL_law_808 rfl ?_
  refine j_goto (pc := 809) (tgt := 1352) dL_law_809 rfl ?_
  exact K τ hIτ ⟨mτ, by omega, sτ, bτ, by omega, by omega, by omega, tτ, stτ⟩
set_option maxHeartbeats 4000000 in
set_option maxRecDepth 100000 in
theorem w_case_22 {G : tw_G} (hX : tw_isX G) (hM : tw_isM G) {E : List Frame → Array Value → State → State → Prop} (hN : (gN G : Int) ≤ 2560) (i : Int) (hi : 0 ≤ i ∧ i + 5 ≤ (gN G : Int)) (τ : tw_M) (hIτ : tw_I τ) (hL : tw_LI τ) (K : ∀ τ' : tw_M, tw_I τ' → tw_LI τ' → tw_J G tw_ML E 1352 [(0, vR 300), (1, vR 0), (2, vR 88), (3, vI i)] [] τ') : tw_J G tw_ML E 812 [(0, vR 300), (1, vR 0), (2, vR 88), (3, vI i)] [] τ := by
  obtain ⟨mτ, zτ, sτ, bτ, fτ, kτ0, kτ1, tτ, stτ⟩ := hL
  have g9 : (0 : Int) ≤ τ 10 10 ∧ τ 10 10 ≤ 400 := hIτ 10 10
  obtain ⟨v1, ev1⟩ : ∃ v : Int, v = (gxs G (i + 1).toNat).toInt := ⟨_, rfl⟩
  have hv1 : (-2147483648 : Int) ≤ v1 ∧ v1 ≤ 2147483647 := by rw [ev1]; exact i32_in _
  obtain ⟨v2, ev2⟩ : ∃ v : Int, v = (gxs G (i + 2).toNat).toInt := ⟨_, rfl⟩
  have hv2 : (-2147483648 : Int) ≤ v2 ∧ v2 ≤ 2147483647 := by rw [ev2]; exact i32_in _
  obtain ⟨v3, ev3⟩ : ∃ v : Int, v = (gxs G (i + 3).toNat).toInt := ⟨_, rfl⟩
  have hv3 : (-2147483648 : Int) ≤ v3 ∧ v3 ≤ 2147483647 := by rw [ev3]; exact i32_in _
  obtain ⟨v4, ev4⟩ : ∃ v : Int, v = (gxs G (i + 4).toNat).toInt := ⟨_, rfl⟩
  have hv4 : (-2147483648 : Int) ≤ v4 ∧ v4 ≤ 2147483647 := by rw [ev4]; exact i32_in _
  refine j_aload_n (pc := 812) dL_law_812 rfl rfl ?_
  refine j_aload_n (pc := 813) dL_law_813 rfl rfl ?_
  refine j_iload_n (pc := 814) dL_law_814 rfl rfl ?_
  refine j_iconst (pc := 815) dL_law_815 ?_
  refine j_iadd (pc := 816) dL_law_816 ?_
  refine j_scrAt (pc := 817) dL_law_817 (by omega) (by omega) (by omega) ?_
  refine j_topV (show _ = v1 from ev1.symm) ?_
  refine j_callV (pc := 818) (As := [vI v1]) (st := []) (c_X11_pitches hX v1 ⟨by omega, by omega⟩ τ hIτ) mv_L_111 rfl rfl rfl (a_0 hX) dL_law_818 ⟨Nat.le_of_ble_eq_true rfl, Nat.le_of_ble_eq_true rfl⟩ ⟨Nat.le_of_ble_eq_true rfl, Nat.le_of_ble_eq_true rfl⟩ rfl (Nat.le_of_ble_eq_true rfl) rfl (fun z1 σ2 hz1 => ?_)
  obtain ⟨r4, rfl, hr4, hIσ2, hGσ2, -⟩ := hz1
  refine j_st (st' := [vI r4]) rfl ?_
  have y5 : σ2 10 10 = τ 10 10 := (hGσ2 10 10 (show ¬ ((10 = 71 ∧ (10 = 1 ∨ 10 = 6)) ∨ 10 = 72 ∨ 10 = 74) from by omega))
  have f6 : (0 : Int) ≤ τ 10 10 ∧ τ 10 10 ≤ 400 := hIτ 10 10
  have bσ2 : BY σ2 := BY_kept bτ (fun j => hGσ2 11 j (show ¬ ((11 = 71 ∧ (j = 1 ∨ j = 6)) ∨ 11 = 72 ∨ 11 = 74) from by omega)) (fun j => hGσ2 98 j (show ¬ ((98 = 71 ∧ (j = 1 ∨ j = 6)) ∨ 98 = 72 ∨ 98 = 74) from by omega)) (by omega)
  have mσ2 : mI σ2 := mI_kept mτ (fun j hj => hGσ2 89 j (show ¬ ((89 = 71 ∧ (j = 1 ∨ j = 6)) ∨ 89 = 72 ∨ 89 = 74) from by omega)) (fun j => hGσ2 90 j (show ¬ ((90 = 71 ∧ (j = 1 ∨ j = 6)) ∨ 90 = 72 ∨ 90 = 74) from by omega)) (hGσ2 91 0 (show ¬ ((91 = 71 ∧ (0 = 1 ∨ 0 = 6)) ∨ 91 = 72 ∨ 91 = 74) from by omega)) hIτ
  have sσ2 : SR σ2 := SR_kept sτ (fun c j h => hGσ2 c j (show ¬ ((c = 71 ∧ (j = 1 ∨ j = 6)) ∨ c = 72 ∨ c = 74) from by omega)) (fun j => hGσ2 104 j (show ¬ ((104 = 71 ∧ (j = 1 ∨ j = 6)) ∨ 104 = 72 ∨ 104 = 74) from by omega)) (fun j => hGσ2 105 j (show ¬ ((105 = 71 ∧ (j = 1 ∨ j = 6)) ∨ 105 = 72 ∨ 105 = 74) from by omega))
  have tσ2 : TT σ2 := TT_kept tτ (fun c j h => hGσ2 c j (show ¬ ((c = 71 ∧ (j = 1 ∨ j = 6)) ∨ c = 72 ∨ c = 74) from by omega)) (fun j h => hGσ2 89 j (show ¬ ((89 = 71 ∧ (j = 1 ∨ j = 6)) ∨ 89 = 72 ∨ 89 = 74) from by omega))
  have stσ2 : ST σ2 := ST_F stτ (fun c j h => hGσ2 c j (show ¬ ((c = 71 ∧ (j = 1 ∨ j = 6)) ∨ c = 72 ∨ c = 74) from by unfold STR at h; omega))
  refine j_pop (pc := 821) dL_law_821 rfl ?_
  refine j_aload_n (pc := 822) dL_law_822 rfl rfl ?_
  refine j_aload_n (pc := 823) dL_law_823 rfl rfl ?_
  refine j_iload_n (pc := 824) dL_law_824 rfl rfl ?_
  refine j_iconst (pc := 825) dL_law_825 ?_
  refine j_iadd (pc := 826) dL_law_826 ?_
  refine j_scrAt (pc := 827) dL_law_827 (by omega) (by omega) (by omega) ?_
  refine j_topV (show _ = v1 from ev1.symm) ?_
  refine j_callV (pc := 828) (As := [vI v1]) (st := []) (c_X12_pitches hM v1 ⟨by omega, by omega⟩ σ2 hIσ2) mv_L_114 rfl rfl rfl (a_88 hM) dL_law_828 ⟨Nat.le_of_ble_eq_true rfl, Nat.le_of_ble_eq_true rfl⟩ ⟨Nat.le_of_ble_eq_true rfl, Nat.le_of_ble_eq_true rfl⟩ rfl (Nat.le_of_ble_eq_true rfl) rfl (fun z7 σ8 hz7 => ?_)
  obtain ⟨r10, rfl, hr10, hIσ8, hGσ8, -⟩ := hz7
  refine j_st (st' := [vI r10]) rfl ?_
  have y11 : σ8 10 10 = τ 10 10 := ((hGσ8 10 10 (show ¬ ((10 = 88 ∧ (10 = 30)) ∨ (99 ≤ 10 ∧ 10 < 101)) from by omega))).trans (hGσ2 10 10 (show ¬ ((10 = 71 ∧ (10 = 1 ∨ 10 = 6)) ∨ 10 = 72 ∨ 10 = 74) from by omega))
  have bσ8 : BY σ8 := BY_kept bσ2 (fun j => hGσ8 11 j (show ¬ ((11 = 88 ∧ (j = 30)) ∨ (99 ≤ 11 ∧ 11 < 101)) from by omega)) (fun j => hGσ8 98 j (show ¬ ((98 = 88 ∧ (j = 30)) ∨ (99 ≤ 98 ∧ 98 < 101)) from by omega)) (by omega)
  have mσ8 : mI σ8 := mI_kept mσ2 (fun j hj => hGσ8 89 j (show ¬ ((89 = 88 ∧ (j = 30)) ∨ (99 ≤ 89 ∧ 89 < 101)) from by omega)) (fun j => hGσ8 90 j (show ¬ ((90 = 88 ∧ (j = 30)) ∨ (99 ≤ 90 ∧ 90 < 101)) from by omega)) (hGσ8 91 0 (show ¬ ((91 = 88 ∧ (0 = 30)) ∨ (99 ≤ 91 ∧ 91 < 101)) from by omega)) hIσ2
  have sσ8 : SR σ8 := SR_kept sσ2 (fun c j h => hGσ8 c j (show ¬ ((c = 88 ∧ (j = 30)) ∨ (99 ≤ c ∧ c < 101)) from by omega)) (fun j => hGσ8 104 j (show ¬ ((104 = 88 ∧ (j = 30)) ∨ (99 ≤ 104 ∧ 104 < 101)) from by omega)) (fun j => hGσ8 105 j (show ¬ ((105 = 88 ∧ (j = 30)) ∨ (99 ≤ 105 ∧ 105 < 101)) from by omega))
  have tσ8 : TT σ8 := TT_kept tσ2 (fun c j h => hGσ8 c j (show ¬ ((c = 88 ∧ (j = 30)) ∨ (99 ≤ c ∧ c < 101)) from by omega)) (fun j h => hGσ8 89 j (show ¬ ((89 = 88 ∧ (j = 30)) ∨ (99 ≤ 89 ∧ 89 < 101)) from by omega))
  have stσ8 : ST σ8 := ST_F stσ2 (fun c j h => hGσ8 c j (show ¬ ((c = 88 ∧ (j = 30)) ∨ (99 ≤ c ∧ c < 101)) from by unfold STR at h; omega))
  refine j_pop (pc := 831) dL_law_831 rfl ?_
  refine j_goto (pc := 832) (tgt := 1352) dL_law_832 rfl ?_
  have y12 : σ8 10 10 = τ 10 10 := ((hGσ8 10 10 (show ¬ ((10 = 88 ∧ (10 = 30)) ∨ (99 ≤ 10 ∧ 10 < 101)) from by omega))).trans (hGσ2 10 10 (show ¬ ((10 = 71 ∧ (10 = 1 ∨ 10 = 6)) ∨ 10 = 72 ∨ 10 = 74) from by omega))
  have y13 : σ8 88 12 = τ 88 12 := ((hGσ8 88 12 (show ¬ ((88 = 88 ∧ (12 = 30)) ∨ (99 ≤ 88 ∧ 88 < 101)) from by omega))).trans (hGσ2 88 12 (show ¬ ((88 = 71 ∧ (12 = 1 ∨ 12 = 6)) ∨ 88 = 72 ∨ 88 = 74) from by omega))
  have f14 : (0 : Int) ≤ τ 88 12 ∧ τ 88 12 ≤ 400 := hIτ 88 12
  have y15 : σ8 0 13 = τ 0 13 := ((hGσ8 0 13 (show ¬ ((0 = 88 ∧ (13 = 30)) ∨ (99 ≤ 0 ∧ 0 < 101)) from by omega))).trans (hGσ2 0 13 (show ¬ ((0 = 71 ∧ (13 = 1 ∨ 13 = 6)) ∨ 0 = 72 ∨ 0 = 74) from by omega))
  have f16 : (-2147483648 : Int) ≤ τ 0 13 ∧ τ 0 13 ≤ 2147483647 := hIτ 0 13
  have y17 : σ8 88 17 = τ 88 17 := ((hGσ8 88 17 (show ¬ ((88 = 88 ∧ (17 = 30)) ∨ (99 ≤ 88 ∧ 88 < 101)) from by omega))).trans (hGσ2 88 17 (show ¬ ((88 = 71 ∧ (17 = 1 ∨ 17 = 6)) ∨ 88 = 72 ∨ 88 = 74) from by omega))
  have f18 : (0 : Int) ≤ τ 88 17 ∧ τ 88 17 ≤ 5 := hIτ 88 17
  have y19 : σ8 31 6 = τ 31 6 := ((hGσ8 31 6 (show ¬ ((31 = 88 ∧ (6 = 30)) ∨ (99 ≤ 31 ∧ 31 < 101)) from by omega))).trans (hGσ2 31 6 (show ¬ ((31 = 71 ∧ (6 = 1 ∨ 6 = 6)) ∨ 31 = 72 ∨ 31 = 74) from by omega))
  have f20 : (0 : Int) ≤ τ 31 6 ∧ τ 31 6 ≤ 1 := hIτ 31 6
  have y21 : σ8 39 6 = τ 39 6 := ((hGσ8 39 6 (show ¬ ((39 = 88 ∧ (6 = 30)) ∨ (99 ≤ 39 ∧ 39 < 101)) from by omega))).trans (hGσ2 39 6 (show ¬ ((39 = 71 ∧ (6 = 1 ∨ 6 = 6)) ∨ 39 = 72 ∨ 39 = 74) from by omega))
  have f22 : (0 : Int) ≤ τ 39 6 ∧ τ 39 6 ≤ 1 := hIτ 39 6
  have y23 : σ8 90 0 = τ 90 0 := ((hGσ8 90 0 (show ¬ ((90 = 88 ∧ (0 = 30)) ∨ (99 ≤ 90 ∧ 90 < 101)) from by omega))).trans (hGσ2 90 0 (show ¬ ((90 = 71 ∧ (0 = 1 ∨ 0 = 6)) ∨ 90 = 72 ∨ 90 = 74) from by omega))
  have f24 : (0 : Int) ≤ τ 90 0 ∧ τ 90 0 ≤ 1 := hIτ 90 0
  have y25 : σ8 90 1 = τ 90 1 := ((hGσ8 90 1 (show ¬ ((90 = 88 ∧ (1 = 30)) ∨ (99 ≤ 90 ∧ 90 < 101)) from by omega))).trans (hGσ2 90 1 (show ¬ ((90 = 71 ∧ (1 = 1 ∨ 1 = 6)) ∨ 90 = 72 ∨ 90 = 74) from by omega))
  have f26 : (0 : Int) ≤ τ 90 1 ∧ τ 90 1 ≤ 1 := hIτ 90 1
  exact K σ8 hIσ8 ⟨mσ8, by omega, sσ8, bσ8, by omega, by omega, by omega, tσ8, stσ8⟩
set_option maxHeartbeats 4000000 in
set_option maxRecDepth 100000 in
theorem w_case_23 {G : tw_G} (hX : tw_isX G) (hM : tw_isM G) {E : List Frame → Array Value → State → State → Prop} (hN : (gN G : Int) ≤ 2560) (i : Int) (hi : 0 ≤ i ∧ i + 5 ≤ (gN G : Int)) (τ : tw_M) (hIτ : tw_I τ) (hL : tw_LI τ) (K : ∀ τ' : tw_M, tw_I τ' → tw_LI τ' → tw_J G tw_ML E 1352 [(0, vR 300), (1, vR 0), (2, vR 88), (3, vI i)] [] τ') : tw_J G tw_ML E 835 [(0, vR 300), (1, vR 0), (2, vR 88), (3, vI i)] [] τ := by
  obtain ⟨mτ, zτ, sτ, bτ, fτ, kτ0, kτ1, tτ, stτ⟩ := hL
  have g9 : (0 : Int) ≤ τ 10 10 ∧ τ 10 10 ≤ 400 := hIτ 10 10
  obtain ⟨v1, ev1⟩ : ∃ v : Int, v = (gxs G (i + 1).toNat).toInt := ⟨_, rfl⟩
  have hv1 : (-2147483648 : Int) ≤ v1 ∧ v1 ≤ 2147483647 := by rw [ev1]; exact i32_in _
  obtain ⟨v2, ev2⟩ : ∃ v : Int, v = (gxs G (i + 2).toNat).toInt := ⟨_, rfl⟩
  have hv2 : (-2147483648 : Int) ≤ v2 ∧ v2 ≤ 2147483647 := by rw [ev2]; exact i32_in _
  obtain ⟨v3, ev3⟩ : ∃ v : Int, v = (gxs G (i + 3).toNat).toInt := ⟨_, rfl⟩
  have hv3 : (-2147483648 : Int) ≤ v3 ∧ v3 ≤ 2147483647 := by rw [ev3]; exact i32_in _
  obtain ⟨v4, ev4⟩ : ∃ v : Int, v = (gxs G (i + 4).toNat).toInt := ⟨_, rfl⟩
  have hv4 : (-2147483648 : Int) ≤ v4 ∧ v4 ≤ 2147483647 := by rw [ev4]; exact i32_in _
  refine j_aload_n (pc := 835) dL_law_835 rfl rfl ?_
  refine j_aload_n (pc := 836) dL_law_836 rfl rfl ?_
  refine j_iload_n (pc := 837) dL_law_837 rfl rfl ?_
  refine j_iconst (pc := 838) dL_law_838 ?_
  refine j_iadd (pc := 839) dL_law_839 ?_
  refine j_scrAt (pc := 840) dL_law_840 (by omega) (by omega) (by omega) ?_
  refine j_topV (show _ = v1 from ev1.symm) ?_
  refine j_aload_n (pc := 841) dL_law_841 rfl rfl ?_
  refine j_iload_n (pc := 842) dL_law_842 rfl rfl ?_
  refine j_iconst (pc := 843) dL_law_843 ?_
  refine j_iadd (pc := 844) dL_law_844 ?_
  refine j_scrAt (pc := 845) dL_law_845 (by omega) (by omega) (by omega) ?_
  refine j_topV (show _ = v2 from ev2.symm) ?_
  refine j_aload_n (pc := 846) dL_law_846 rfl rfl ?_
  refine j_iload_n (pc := 847) dL_law_847 rfl rfl ?_
  refine j_iconst (pc := 848) dL_law_848 ?_
  refine j_iadd (pc := 849) dL_law_849 ?_
  refine j_scrAt (pc := 850) dL_law_850 (by omega) (by omega) (by omega) ?_
  refine j_topV (show _ = v3 from ev3.symm) ?_
  refine j_ifR_eq (pc := 851) (tgt := 858) ⟨by omega, by omega⟩ dL_law_851 rfl (fun h1 => ?_) (fun h1 => ?_)
  · refine j_iconst (pc := 858) dL_law_858 ?_
    refine j_aload_n (pc := 859) dL_law_859 rfl rfl ?_
    refine j_iload_n (pc := 860) dL_law_860 rfl rfl ?_
    refine j_iconst (pc := 861) dL_law_861 ?_
    refine j_iadd (pc := 862) dL_law_862 ?_
    refine j_scrAt (pc := 863) dL_law_863 (by omega) (by omega) (by omega) ?_
    refine j_topV (show _ = v4 from ev4.symm) ?_
    refine j_callV (pc := 864) (As := [vI v1, vI v2, vI 0, vI v4]) (st := []) (c_X11_leads hX v1 ⟨by omega, by omega⟩ v2 ⟨by omega, by omega⟩ 0 ⟨by omega, by omega⟩ v4 ⟨by omega, by omega⟩ τ hIτ) mv_L_115 rfl rfl rfl (a_0 hX) dL_law_864 ⟨Nat.le_of_ble_eq_true rfl, Nat.le_of_ble_eq_true rfl⟩ ⟨Nat.le_of_ble_eq_true rfl, Nat.le_of_ble_eq_true rfl⟩ rfl (Nat.le_of_ble_eq_true rfl) rfl (fun z2 σ3 hz2 => ?_)
    obtain ⟨r5, rfl, hr5, hIσ3, hGσ3, -⟩ := hz2
    refine j_st (st' := [vI r5]) rfl ?_
    have y6 : σ3 10 10 = τ 10 10 := (hGσ3 10 10 (show ¬ ((10 = 71 ∧ (10 = 1 ∨ 10 = 6 ∨ 10 = 7)) ∨ 10 = 72 ∨ (74 ≤ 10 ∧ 10 < 76)) from by omega))
    have f7 : (0 : Int) ≤ τ 10 10 ∧ τ 10 10 ≤ 400 := hIτ 10 10
    have bσ3 : BY σ3 := BY_kept bτ (fun j => hGσ3 11 j (show ¬ ((11 = 71 ∧ (j = 1 ∨ j = 6 ∨ j = 7)) ∨ 11 = 72 ∨ (74 ≤ 11 ∧ 11 < 76)) from by omega)) (fun j => hGσ3 98 j (show ¬ ((98 = 71 ∧ (j = 1 ∨ j = 6 ∨ j = 7)) ∨ 98 = 72 ∨ (74 ≤ 98 ∧ 98 < 76)) from by omega)) (by omega)
    have mσ3 : mI σ3 := mI_kept mτ (fun j hj => hGσ3 89 j (show ¬ ((89 = 71 ∧ (j = 1 ∨ j = 6 ∨ j = 7)) ∨ 89 = 72 ∨ (74 ≤ 89 ∧ 89 < 76)) from by omega)) (fun j => hGσ3 90 j (show ¬ ((90 = 71 ∧ (j = 1 ∨ j = 6 ∨ j = 7)) ∨ 90 = 72 ∨ (74 ≤ 90 ∧ 90 < 76)) from by omega)) (hGσ3 91 0 (show ¬ ((91 = 71 ∧ (0 = 1 ∨ 0 = 6 ∨ 0 = 7)) ∨ 91 = 72 ∨ (74 ≤ 91 ∧ 91 < 76)) from by omega)) hIτ
    have sσ3 : SR σ3 := SR_kept sτ (fun c j h => hGσ3 c j (show ¬ ((c = 71 ∧ (j = 1 ∨ j = 6 ∨ j = 7)) ∨ c = 72 ∨ (74 ≤ c ∧ c < 76)) from by omega)) (fun j => hGσ3 104 j (show ¬ ((104 = 71 ∧ (j = 1 ∨ j = 6 ∨ j = 7)) ∨ 104 = 72 ∨ (74 ≤ 104 ∧ 104 < 76)) from by omega)) (fun j => hGσ3 105 j (show ¬ ((105 = 71 ∧ (j = 1 ∨ j = 6 ∨ j = 7)) ∨ 105 = 72 ∨ (74 ≤ 105 ∧ 105 < 76)) from by omega))
    have tσ3 : TT σ3 := TT_kept tτ (fun c j h => hGσ3 c j (show ¬ ((c = 71 ∧ (j = 1 ∨ j = 6 ∨ j = 7)) ∨ c = 72 ∨ (74 ≤ c ∧ c < 76)) from by omega)) (fun j h => hGσ3 89 j (show ¬ ((89 = 71 ∧ (j = 1 ∨ j = 6 ∨ j = 7)) ∨ 89 = 72 ∨ (74 ≤ 89 ∧ 89 < 76)) from by omega))
    have stσ3 : ST σ3 := ST_F stτ (fun c j h => hGσ3 c j (show ¬ ((c = 71 ∧ (j = 1 ∨ j = 6 ∨ j = 7)) ∨ c = 72 ∨ (74 ≤ c ∧ c < 76)) from by unfold STR at h; omega))
    refine j_pop (pc := 867) dL_law_867 rfl ?_
    refine j_aload_n (pc := 868) dL_law_868 rfl rfl ?_
    refine j_aload_n (pc := 869) dL_law_869 rfl rfl ?_
    refine j_iload_n (pc := 870) dL_law_870 rfl rfl ?_
    refine j_iconst (pc := 871) dL_law_871 ?_
    refine j_iadd (pc := 872) dL_law_872 ?_
    refine j_scrAt (pc := 873) dL_law_873 (by omega) (by omega) (by omega) ?_
    refine j_topV (show _ = v1 from ev1.symm) ?_
    refine j_aload_n (pc := 874) dL_law_874 rfl rfl ?_
    refine j_iload_n (pc := 875) dL_law_875 rfl rfl ?_
    refine j_iconst (pc := 876) dL_law_876 ?_
    refine j_iadd (pc := 877) dL_law_877 ?_
    refine j_scrAt (pc := 878) dL_law_878 (by omega) (by omega) (by omega) ?_
    refine j_topV (show _ = v2 from ev2.symm) ?_
    refine j_aload_n (pc := 879) dL_law_879 rfl rfl ?_
    refine j_iload_n (pc := 880) dL_law_880 rfl rfl ?_
    refine j_iconst (pc := 881) dL_law_881 ?_
    refine j_iadd (pc := 882) dL_law_882 ?_
    refine j_scrAt (pc := 883) dL_law_883 (by omega) (by omega) (by omega) ?_
    refine j_topV (show _ = v3 from ev3.symm) ?_
    refine j_ifR_eq (pc := 884) (tgt := 891) ⟨by omega, by omega⟩ dL_law_884 rfl (fun h8 => ?_) (fun h8 => by exfalso; omega)
    refine j_iconst (pc := 891) dL_law_891 ?_
    refine j_aload_n (pc := 892) dL_law_892 rfl rfl ?_
    refine j_iload_n (pc := 893) dL_law_893 rfl rfl ?_
    refine j_iconst (pc := 894) dL_law_894 ?_
    refine j_iadd (pc := 895) dL_law_895 ?_
    refine j_scrAt (pc := 896) dL_law_896 (by omega) (by omega) (by omega) ?_
    refine j_topV (show _ = v4 from ev4.symm) ?_
    refine j_callV (pc := 897) (As := [vI v1, vI v2, vI 0, vI v4]) (st := []) (c_X12_leads hM v1 ⟨by omega, by omega⟩ v2 ⟨by omega, by omega⟩ 0 ⟨by omega, by omega⟩ v4 ⟨by omega, by omega⟩ σ3 hIσ3) mv_L_119 rfl rfl rfl (a_88 hM) dL_law_897 ⟨Nat.le_of_ble_eq_true rfl, Nat.le_of_ble_eq_true rfl⟩ ⟨Nat.le_of_ble_eq_true rfl, Nat.le_of_ble_eq_true rfl⟩ rfl (Nat.le_of_ble_eq_true rfl) rfl (fun z9 σ10 hz9 => ?_)
    obtain ⟨r12, rfl, hr12, hIσ10, hGσ10, -⟩ := hz9
    refine j_st (st' := [vI r12]) rfl ?_
    have y13 : σ10 10 10 = τ 10 10 := ((hGσ10 10 10 (show ¬ ((10 = 88 ∧ (10 = 30)) ∨ (99 ≤ 10 ∧ 10 < 101)) from by omega))).trans (hGσ3 10 10 (show ¬ ((10 = 71 ∧ (10 = 1 ∨ 10 = 6 ∨ 10 = 7)) ∨ 10 = 72 ∨ (74 ≤ 10 ∧ 10 < 76)) from by omega))
    have bσ10 : BY σ10 := BY_kept bσ3 (fun j => hGσ10 11 j (show ¬ ((11 = 88 ∧ (j = 30)) ∨ (99 ≤ 11 ∧ 11 < 101)) from by omega)) (fun j => hGσ10 98 j (show ¬ ((98 = 88 ∧ (j = 30)) ∨ (99 ≤ 98 ∧ 98 < 101)) from by omega)) (by omega)
    have mσ10 : mI σ10 := mI_kept mσ3 (fun j hj => hGσ10 89 j (show ¬ ((89 = 88 ∧ (j = 30)) ∨ (99 ≤ 89 ∧ 89 < 101)) from by omega)) (fun j => hGσ10 90 j (show ¬ ((90 = 88 ∧ (j = 30)) ∨ (99 ≤ 90 ∧ 90 < 101)) from by omega)) (hGσ10 91 0 (show ¬ ((91 = 88 ∧ (0 = 30)) ∨ (99 ≤ 91 ∧ 91 < 101)) from by omega)) hIσ3
    have sσ10 : SR σ10 := SR_kept sσ3 (fun c j h => hGσ10 c j (show ¬ ((c = 88 ∧ (j = 30)) ∨ (99 ≤ c ∧ c < 101)) from by omega)) (fun j => hGσ10 104 j (show ¬ ((104 = 88 ∧ (j = 30)) ∨ (99 ≤ 104 ∧ 104 < 101)) from by omega)) (fun j => hGσ10 105 j (show ¬ ((105 = 88 ∧ (j = 30)) ∨ (99 ≤ 105 ∧ 105 < 101)) from by omega))
    have tσ10 : TT σ10 := TT_kept tσ3 (fun c j h => hGσ10 c j (show ¬ ((c = 88 ∧ (j = 30)) ∨ (99 ≤ c ∧ c < 101)) from by omega)) (fun j h => hGσ10 89 j (show ¬ ((89 = 88 ∧ (j = 30)) ∨ (99 ≤ 89 ∧ 89 < 101)) from by omega))
    have stσ10 : ST σ10 := ST_F stσ3 (fun c j h => hGσ10 c j (show ¬ ((c = 88 ∧ (j = 30)) ∨ (99 ≤ c ∧ c < 101)) from by unfold STR at h; omega))
    refine j_pop (pc := 900) dL_law_900 rfl ?_
    refine j_goto (pc := 901) (tgt := 1352) dL_law_901 rfl ?_
    have y14 : σ10 10 10 = τ 10 10 := ((hGσ10 10 10 (show ¬ ((10 = 88 ∧ (10 = 30)) ∨ (99 ≤ 10 ∧ 10 < 101)) from by omega))).trans (hGσ3 10 10 (show ¬ ((10 = 71 ∧ (10 = 1 ∨ 10 = 6 ∨ 10 = 7)) ∨ 10 = 72 ∨ (74 ≤ 10 ∧ 10 < 76)) from by omega))
    have y15 : σ10 88 12 = τ 88 12 := ((hGσ10 88 12 (show ¬ ((88 = 88 ∧ (12 = 30)) ∨ (99 ≤ 88 ∧ 88 < 101)) from by omega))).trans (hGσ3 88 12 (show ¬ ((88 = 71 ∧ (12 = 1 ∨ 12 = 6 ∨ 12 = 7)) ∨ 88 = 72 ∨ (74 ≤ 88 ∧ 88 < 76)) from by omega))
    have f16 : (0 : Int) ≤ τ 88 12 ∧ τ 88 12 ≤ 400 := hIτ 88 12
    have y17 : σ10 0 13 = τ 0 13 := ((hGσ10 0 13 (show ¬ ((0 = 88 ∧ (13 = 30)) ∨ (99 ≤ 0 ∧ 0 < 101)) from by omega))).trans (hGσ3 0 13 (show ¬ ((0 = 71 ∧ (13 = 1 ∨ 13 = 6 ∨ 13 = 7)) ∨ 0 = 72 ∨ (74 ≤ 0 ∧ 0 < 76)) from by omega))
    have f18 : (-2147483648 : Int) ≤ τ 0 13 ∧ τ 0 13 ≤ 2147483647 := hIτ 0 13
    have y19 : σ10 88 17 = τ 88 17 := ((hGσ10 88 17 (show ¬ ((88 = 88 ∧ (17 = 30)) ∨ (99 ≤ 88 ∧ 88 < 101)) from by omega))).trans (hGσ3 88 17 (show ¬ ((88 = 71 ∧ (17 = 1 ∨ 17 = 6 ∨ 17 = 7)) ∨ 88 = 72 ∨ (74 ≤ 88 ∧ 88 < 76)) from by omega))
    have f20 : (0 : Int) ≤ τ 88 17 ∧ τ 88 17 ≤ 5 := hIτ 88 17
    have y21 : σ10 31 6 = τ 31 6 := ((hGσ10 31 6 (show ¬ ((31 = 88 ∧ (6 = 30)) ∨ (99 ≤ 31 ∧ 31 < 101)) from by omega))).trans (hGσ3 31 6 (show ¬ ((31 = 71 ∧ (6 = 1 ∨ 6 = 6 ∨ 6 = 7)) ∨ 31 = 72 ∨ (74 ≤ 31 ∧ 31 < 76)) from by omega))
    have f22 : (0 : Int) ≤ τ 31 6 ∧ τ 31 6 ≤ 1 := hIτ 31 6
    have y23 : σ10 39 6 = τ 39 6 := ((hGσ10 39 6 (show ¬ ((39 = 88 ∧ (6 = 30)) ∨ (99 ≤ 39 ∧ 39 < 101)) from by omega))).trans (hGσ3 39 6 (show ¬ ((39 = 71 ∧ (6 = 1 ∨ 6 = 6 ∨ 6 = 7)) ∨ 39 = 72 ∨ (74 ≤ 39 ∧ 39 < 76)) from by omega))
    have f24 : (0 : Int) ≤ τ 39 6 ∧ τ 39 6 ≤ 1 := hIτ 39 6
    have y25 : σ10 90 0 = τ 90 0 := ((hGσ10 90 0 (show ¬ ((90 = 88 ∧ (0 = 30)) ∨ (99 ≤ 90 ∧ 90 < 101)) from by omega))).trans (hGσ3 90 0 (show ¬ ((90 = 71 ∧ (0 = 1 ∨ 0 = 6 ∨ 0 = 7)) ∨ 90 = 72 ∨ (74 ≤ 90 ∧ 90 < 76)) from by omega))
    have f26 : (0 : Int) ≤ τ 90 0 ∧ τ 90 0 ≤ 1 := hIτ 90 0
    have y27 : σ10 90 1 = τ 90 1 := ((hGσ10 90 1 (show ¬ ((90 = 88 ∧ (1 = 30)) ∨ (99 ≤ 90 ∧ 90 < 101)) from by omega))).trans (hGσ3 90 1 (show ¬ ((90 = 71 ∧ (1 = 1 ∨ 1 = 6 ∨ 1 = 7)) ∨ 90 = 72 ∨ (74 ≤ 90 ∧ 90 < 76)) from by omega))
    have f28 : (0 : Int) ≤ τ 90 1 ∧ τ 90 1 ≤ 1 := hIτ 90 1
    exact K σ10 hIσ10 ⟨mσ10, by omega, sσ10, bσ10, by omega, by omega, by omega, tσ10, stσ10⟩
  · refine j_iconst (pc := 854) dL_law_854 ?_
    refine j_goto (pc := 855) (tgt := 859) dL_law_855 rfl ?_
    refine j_aload_n (pc := 859) dL_law_859 rfl rfl ?_
    refine j_iload_n (pc := 860) dL_law_860 rfl rfl ?_
    refine j_iconst (pc := 861) dL_law_861 ?_
    refine j_iadd (pc := 862) dL_law_862 ?_
    refine j_scrAt (pc := 863) dL_law_863 (by omega) (by omega) (by omega) ?_
    refine j_topV (show _ = v4 from ev4.symm) ?_
    refine j_callV (pc := 864) (As := [vI v1, vI v2, vI 1, vI v4]) (st := []) (c_X11_leads hX v1 ⟨by omega, by omega⟩ v2 ⟨by omega, by omega⟩ 1 ⟨by omega, by omega⟩ v4 ⟨by omega, by omega⟩ τ hIτ) mv_L_115 rfl rfl rfl (a_0 hX) dL_law_864 ⟨Nat.le_of_ble_eq_true rfl, Nat.le_of_ble_eq_true rfl⟩ ⟨Nat.le_of_ble_eq_true rfl, Nat.le_of_ble_eq_true rfl⟩ rfl (Nat.le_of_ble_eq_true rfl) rfl (fun z29 σ30 hz29 => ?_)
    obtain ⟨r32, rfl, hr32, hIσ30, hGσ30, -⟩ := hz29
    refine j_st (st' := [vI r32]) rfl ?_
    have y33 : σ30 10 10 = τ 10 10 := (hGσ30 10 10 (show ¬ ((10 = 71 ∧ (10 = 1 ∨ 10 = 6 ∨ 10 = 7)) ∨ 10 = 72 ∨ (74 ≤ 10 ∧ 10 < 76)) from by omega))
    have f34 : (0 : Int) ≤ τ 10 10 ∧ τ 10 10 ≤ 400 := hIτ 10 10
    have bσ30 : BY σ30 := BY_kept bτ (fun j => hGσ30 11 j (show ¬ ((11 = 71 ∧ (j = 1 ∨ j = 6 ∨ j = 7)) ∨ 11 = 72 ∨ (74 ≤ 11 ∧ 11 < 76)) from by omega)) (fun j => hGσ30 98 j (show ¬ ((98 = 71 ∧ (j = 1 ∨ j = 6 ∨ j = 7)) ∨ 98 = 72 ∨ (74 ≤ 98 ∧ 98 < 76)) from by omega)) (by omega)
    have mσ30 : mI σ30 := mI_kept mτ (fun j hj => hGσ30 89 j (show ¬ ((89 = 71 ∧ (j = 1 ∨ j = 6 ∨ j = 7)) ∨ 89 = 72 ∨ (74 ≤ 89 ∧ 89 < 76)) from by omega)) (fun j => hGσ30 90 j (show ¬ ((90 = 71 ∧ (j = 1 ∨ j = 6 ∨ j = 7)) ∨ 90 = 72 ∨ (74 ≤ 90 ∧ 90 < 76)) from by omega)) (hGσ30 91 0 (show ¬ ((91 = 71 ∧ (0 = 1 ∨ 0 = 6 ∨ 0 = 7)) ∨ 91 = 72 ∨ (74 ≤ 91 ∧ 91 < 76)) from by omega)) hIτ
    have sσ30 : SR σ30 := SR_kept sτ (fun c j h => hGσ30 c j (show ¬ ((c = 71 ∧ (j = 1 ∨ j = 6 ∨ j = 7)) ∨ c = 72 ∨ (74 ≤ c ∧ c < 76)) from by omega)) (fun j => hGσ30 104 j (show ¬ ((104 = 71 ∧ (j = 1 ∨ j = 6 ∨ j = 7)) ∨ 104 = 72 ∨ (74 ≤ 104 ∧ 104 < 76)) from by omega)) (fun j => hGσ30 105 j (show ¬ ((105 = 71 ∧ (j = 1 ∨ j = 6 ∨ j = 7)) ∨ 105 = 72 ∨ (74 ≤ 105 ∧ 105 < 76)) from by omega))
    have tσ30 : TT σ30 := TT_kept tτ (fun c j h => hGσ30 c j (show ¬ ((c = 71 ∧ (j = 1 ∨ j = 6 ∨ j = 7)) ∨ c = 72 ∨ (74 ≤ c ∧ c < 76)) from by omega)) (fun j h => hGσ30 89 j (show ¬ ((89 = 71 ∧ (j = 1 ∨ j = 6 ∨ j = 7)) ∨ 89 = 72 ∨ (74 ≤ 89 ∧ 89 < 76)) from by omega))
    have stσ30 : ST σ30 := ST_F stτ (fun c j h => hGσ30 c j (show ¬ ((c = 71 ∧ (j = 1 ∨ j = 6 ∨ j = 7)) ∨ c = 72 ∨ (74 ≤ c ∧ c < 76)) from by unfold STR at h; omega))
    refine j_pop (pc := 867) dL_law_867 rfl ?_
    refine j_aload_n (pc := 868) dL_law_868 rfl rfl ?_
    refine j_aload_n (pc := 869) dL_law_869 rfl rfl ?_
    refine j_iload_n (pc := 870) dL_law_870 rfl rfl ?_
    refine j_iconst (pc := 871) dL_law_871 ?_
    refine j_iadd (pc := 872) dL_law_872 ?_
    refine j_scrAt (pc := 873) dL_law_873 (by omega) (by omega) (by omega) ?_
    refine j_topV (show _ = v1 from ev1.symm) ?_
    refine j_aload_n (pc := 874) dL_law_874 rfl rfl ?_
    refine j_iload_n (pc := 875) dL_law_875 rfl rfl ?_
    refine j_iconst (pc := 876) dL_law_876 ?_
    refine j_iadd (pc := 877) dL_law_877 ?_
    refine j_scrAt (pc := 878) dL_law_878 (by omega) (by omega) (by omega) ?_
    refine j_topV (show _ = v2 from ev2.symm) ?_
    refine j_aload_n (pc := 879) dL_law_879 rfl rfl ?_
    refine j_iload_n (pc := 880) dL_law_880 rfl rfl ?_
    refine j_iconst (pc := 881) dL_law_881 ?_
    refine j_iadd (pc := 882) dL_law_882 ?_
    refine j_scrAt (pc := 883) dL_law_883 (by omega) (by omega) (by omega) ?_
    refine j_topV (show _ = v3 from ev3.symm) ?_
    refine j_ifR_eq (pc := 884) (tgt := 891) ⟨by omega, by omega⟩ dL_law_884 rfl (fun h35 => ?_) (fun h35 => ?_)
    · refine j_iconst (pc := 891) dL_law_891 ?_
      refine j_aload_n (pc := 892) dL_law_892 rfl rfl ?_
      refine j_iload_n (pc := 893) dL_law_893 rfl rfl ?_
      refine j_iconst (pc := 894) dL_law_894 ?_
      refine j_iadd (pc := 895) dL_law_895 ?_
      refine j_scrAt (pc := 896) dL_law_896 (by omega) (by omega) (by omega) ?_
      refine j_topV (show _ = v4 from ev4.symm) ?_
      refine j_callV (pc := 897) (As := [vI v1, vI v2, vI 0, vI v4]) (st := []) (c_X12_leads hM v1 ⟨by omega, by omega⟩ v2 ⟨by omega, by omega⟩ 0 ⟨by omega, by omega⟩ v4 ⟨by omega, by omega⟩ σ30 hIσ30) mv_L_119 rfl rfl rfl (a_88 hM) dL_law_897 ⟨Nat.le_of_ble_eq_true rfl, Nat.le_of_ble_eq_true rfl⟩ ⟨Nat.le_of_ble_eq_true rfl, Nat.le_of_ble_eq_true rfl⟩ rfl (Nat.le_of_ble_eq_true rfl) rfl (fun z36 σ37 hz36 => ?_)
      obtain ⟨r39, rfl, hr39, hIσ37, hGσ37, -⟩ := hz36
      refine j_st (st' := [vI r39]) rfl ?_
      have y40 : σ37 10 10 = τ 10 10 := ((hGσ37 10 10 (show ¬ ((10 = 88 ∧ (10 = 30)) ∨ (99 ≤ 10 ∧ 10 < 101)) from by omega))).trans (hGσ30 10 10 (show ¬ ((10 = 71 ∧ (10 = 1 ∨ 10 = 6 ∨ 10 = 7)) ∨ 10 = 72 ∨ (74 ≤ 10 ∧ 10 < 76)) from by omega))
      have bσ37 : BY σ37 := BY_kept bσ30 (fun j => hGσ37 11 j (show ¬ ((11 = 88 ∧ (j = 30)) ∨ (99 ≤ 11 ∧ 11 < 101)) from by omega)) (fun j => hGσ37 98 j (show ¬ ((98 = 88 ∧ (j = 30)) ∨ (99 ≤ 98 ∧ 98 < 101)) from by omega)) (by omega)
      have mσ37 : mI σ37 := mI_kept mσ30 (fun j hj => hGσ37 89 j (show ¬ ((89 = 88 ∧ (j = 30)) ∨ (99 ≤ 89 ∧ 89 < 101)) from by omega)) (fun j => hGσ37 90 j (show ¬ ((90 = 88 ∧ (j = 30)) ∨ (99 ≤ 90 ∧ 90 < 101)) from by omega)) (hGσ37 91 0 (show ¬ ((91 = 88 ∧ (0 = 30)) ∨ (99 ≤ 91 ∧ 91 < 101)) from by omega)) hIσ30
      have sσ37 : SR σ37 := SR_kept sσ30 (fun c j h => hGσ37 c j (show ¬ ((c = 88 ∧ (j = 30)) ∨ (99 ≤ c ∧ c < 101)) from by omega)) (fun j => hGσ37 104 j (show ¬ ((104 = 88 ∧ (j = 30)) ∨ (99 ≤ 104 ∧ 104 < 101)) from by omega)) (fun j => hGσ37 105 j (show ¬ ((105 = 88 ∧ (j = 30)) ∨ (99 ≤ 105 ∧ 105 < 101)) from by omega))
      have tσ37 : TT σ37 := TT_kept tσ30 (fun c j h => hGσ37 c j (show ¬ ((c = 88 ∧ (j = 30)) ∨ (99 ≤ c ∧ c < 101)) from by omega)) (fun j h => hGσ37 89 j (show ¬ ((89 = 88 ∧ (j = 30)) ∨ (99 ≤ 89 ∧ 89 < 101)) from by omega))
      have stσ37 : ST σ37 := ST_F stσ30 (fun c j h => hGσ37 c j (show ¬ ((c = 88 ∧ (j = 30)) ∨ (99 ≤ c ∧ c < 101)) from by unfold STR at h; omega))
      refine j_pop (pc := 900) dL_law_900 rfl ?_
      refine j_goto (pc := 901) (tgt := 1352) dL_law_901 rfl ?_
      have y41 : σ37 10 10 = τ 10 10 := ((hGσ37 10 10 (show ¬ ((10 = 88 ∧ (10 = 30)) ∨ (99 ≤ 10 ∧ 10 < 101)) from by omega))).trans (hGσ30 10 10 (show ¬ ((10 = 71 ∧ (10 = 1 ∨ 10 = 6 ∨ 10 = 7)) ∨ 10 = 72 ∨ (74 ≤ 10 ∧ 10 < 76)) from by omega))
      have y42 : σ37 88 12 = τ 88 12 := ((hGσ37 88 12 (show ¬ ((88 = 88 ∧ (12 = 30)) ∨ (99 ≤ 88 ∧ 88 < 101)) from by omega))).trans (hGσ30 88 12 (show ¬ ((88 = 71 ∧ (12 = 1 ∨ 12 = 6 ∨ 12 = 7)) ∨ 88 = 72 ∨ (74 ≤ 88 ∧ 88 < 76)) from by omega))
      have f43 : (0 : Int) ≤ τ 88 12 ∧ τ 88 12 ≤ 400 := hIτ 88 12
      have y44 : σ37 0 13 = τ 0 13 := ((hGσ37 0 13 (show ¬ ((0 = 88 ∧ (13 = 30)) ∨ (99 ≤ 0 ∧ 0 < 101)) from by omega))).trans (hGσ30 0 13 (show ¬ ((0 = 71 ∧ (13 = 1 ∨ 13 = 6 ∨ 13 = 7)) ∨ 0 = 72 ∨ (74 ≤ 0 ∧ 0 < 76)) from by omega))
      have f45 : (-2147483648 : Int) ≤ τ 0 13 ∧ τ 0 13 ≤ 2147483647 := hIτ 0 13
      have y46 : σ37 88 17 = τ 88 17 := ((hGσ37 88 17 (show ¬ ((88 = 88 ∧ (17 = 30)) ∨ (99 ≤ 88 ∧ 88 < 101)) from by omega))).trans (hGσ30 88 17 (show ¬ ((88 = 71 ∧ (17 = 1 ∨ 17 = 6 ∨ 17 = 7)) ∨ 88 = 72 ∨ (74 ≤ 88 ∧ 88 < 76)) from by omega))
      have f47 : (0 : Int) ≤ τ 88 17 ∧ τ 88 17 ≤ 5 := hIτ 88 17
      have y48 : σ37 31 6 = τ 31 6 := ((hGσ37 31 6 (show ¬ ((31 = 88 ∧ (6 = 30)) ∨ (99 ≤ 31 ∧ 31 < 101)) from by omega))).trans (hGσ30 31 6 (show ¬ ((31 = 71 ∧ (6 = 1 ∨ 6 = 6 ∨ 6 = 7)) ∨ 31 = 72 ∨ (74 ≤ 31 ∧ 31 < 76)) from by omega))
      have f49 : (0 : Int) ≤ τ 31 6 ∧ τ 31 6 ≤ 1 := hIτ 31 6
      have y50 : σ37 39 6 = τ 39 6 := ((hGσ37 39 6 (show ¬ ((39 = 88 ∧ (6 = 30)) ∨ (99 ≤ 39 ∧ 39 < 101)) from by omega))).trans (hGσ30 39 6 (show ¬ ((39 = 71 ∧ (6 = 1 ∨ 6 = 6 ∨ 6 = 7)) ∨ 39 = 72 ∨ (74 ≤ 39 ∧ 39 < 76)) from by omega))
      have f51 : (0 : Int) ≤ τ 39 6 ∧ τ 39 6 ≤ 1 := hIτ 39 6
      have y52 : σ37 90 0 = τ 90 0 := ((hGσ37 90 0 (show ¬ ((90 = 88 ∧ (0 = 30)) ∨ (99 ≤ 90 ∧ 90 < 101)) from by omega))).trans (hGσ30 90 0 (show ¬ ((90 = 71 ∧ (0 = 1 ∨ 0 = 6 ∨ 0 = 7)) ∨ 90 = 72 ∨ (74 ≤ 90 ∧ 90 < 76)) from by omega))
      have f53 : (0 : Int) ≤ τ 90 0 ∧ τ 90 0 ≤ 1 := hIτ 90 0
      have y54 : σ37 90 1 = τ 90 1 := ((hGσ37 90 1 (show ¬ ((90 = 88 ∧ (1 = 30)) ∨ (99 ≤ 90 ∧ 90 < 101)) from by omega))).trans (hGσ30 90 1 (show ¬ ((90 = 71 ∧ (1 = 1 ∨ 1 = 6 ∨ 1 = 7)) ∨ 90 = 72 ∨ (74 ≤ 90 ∧ 90 < 76)) from by omega))
      have f55 : (0 : Int) ≤ τ 90 1 ∧ τ 90 1 ≤ 1 := hIτ 90 1
      exact K σ37 hIσ37 ⟨mσ37, by omega, sσ37, bσ37, by omega, by omega, by omega, tσ37, stσ37⟩
    · refine j_iconst (pc := 887) dL_law_887 ?_
      refine j_goto (pc := 888) (tgt := 892) dL_law_888 rfl ?_
      refine j_aload_n (pc := 892) dL_law_892 rfl rfl ?_
      refine j_iload_n (pc := 893) dL_law_893 rfl rfl ?_
      refine j_iconst (pc := 894) dL_law_894 ?_
      refine j_iadd (pc := 895) dL_law_895 ?_
      refine j_scrAt (pc := 896) dL_law_896 (by omega) (by omega) (by omega) ?_
      refine j_topV (show _ = v4 from ev4.symm) ?_
      refine j_callV (pc := 897) (As := [vI v1, vI v2, vI 1, vI v4]) (st := []) (c_X12_leads hM v1 ⟨by omega, by omega⟩ v2 ⟨by omega, by omega⟩ 1 ⟨by omega, by omega⟩ v4 ⟨by omega, by omega⟩ σ30 hIσ30) mv_L_119 rfl rfl rfl (a_88 hM) dL_law_897 ⟨Nat.le_of_ble_eq_true rfl, Nat.le_of_ble_eq_true rfl⟩ ⟨Nat.le_of_ble_eq_true rfl, Nat.le_of_ble_eq_true rfl⟩ rfl (Nat.le_of_ble_eq_true rfl) rfl (fun z56 σ57 hz56 => ?_)
      obtain ⟨r59, rfl, hr59, hIσ57, hGσ57, -⟩ := hz56
      refine j_st (st' := [vI r59]) rfl ?_
      have y60 : σ57 10 10 = τ 10 10 := ((hGσ57 10 10 (show ¬ ((10 = 88 ∧ (10 = 30)) ∨ (99 ≤ 10 ∧ 10 < 101)) from by omega))).trans (hGσ30 10 10 (show ¬ ((10 = 71 ∧ (10 = 1 ∨ 10 = 6 ∨ 10 = 7)) ∨ 10 = 72 ∨ (74 ≤ 10 ∧ 10 < 76)) from by omega))
      have bσ57 : BY σ57 := BY_kept bσ30 (fun j => hGσ57 11 j (show ¬ ((11 = 88 ∧ (j = 30)) ∨ (99 ≤ 11 ∧ 11 < 101)) from by omega)) (fun j => hGσ57 98 j (show ¬ ((98 = 88 ∧ (j = 30)) ∨ (99 ≤ 98 ∧ 98 < 101)) from by omega)) (by omega)
      have mσ57 : mI σ57 := mI_kept mσ30 (fun j hj => hGσ57 89 j (show ¬ ((89 = 88 ∧ (j = 30)) ∨ (99 ≤ 89 ∧ 89 < 101)) from by omega)) (fun j => hGσ57 90 j (show ¬ ((90 = 88 ∧ (j = 30)) ∨ (99 ≤ 90 ∧ 90 < 101)) from by omega)) (hGσ57 91 0 (show ¬ ((91 = 88 ∧ (0 = 30)) ∨ (99 ≤ 91 ∧ 91 < 101)) from by omega)) hIσ30
      have sσ57 : SR σ57 := SR_kept sσ30 (fun c j h => hGσ57 c j (show ¬ ((c = 88 ∧ (j = 30)) ∨ (99 ≤ c ∧ c < 101)) from by omega)) (fun j => hGσ57 104 j (show ¬ ((104 = 88 ∧ (j = 30)) ∨ (99 ≤ 104 ∧ 104 < 101)) from by omega)) (fun j => hGσ57 105 j (show ¬ ((105 = 88 ∧ (j = 30)) ∨ (99 ≤ 105 ∧ 105 < 101)) from by omega))
      have tσ57 : TT σ57 := TT_kept tσ30 (fun c j h => hGσ57 c j (show ¬ ((c = 88 ∧ (j = 30)) ∨ (99 ≤ c ∧ c < 101)) from by omega)) (fun j h => hGσ57 89 j (show ¬ ((89 = 88 ∧ (j = 30)) ∨ (99 ≤ 89 ∧ 89 < 101)) from by omega))
      have stσ57 : ST σ57 := ST_F stσ30 (fun c j h => hGσ57 c j (show ¬ ((c = 88 ∧ (j = 30)) ∨ (99 ≤ c ∧ c < 101)) from by unfold STR at h; omega))
      refine j_pop (pc := 900) dL_law_900 rfl ?_
      refine j_goto (pc := 901) (tgt := 1352) dL_law_901 rfl ?_
      have y61 : σ57 10 10 = τ 10 10 := ((hGσ57 10 10 (show ¬ ((10 = 88 ∧ (10 = 30)) ∨ (99 ≤ 10 ∧ 10 < 101)) from by omega))).trans (hGσ30 10 10 (show ¬ ((10 = 71 ∧ (10 = 1 ∨ 10 = 6 ∨ 10 = 7)) ∨ 10 = 72 ∨ (74 ≤ 10 ∧ 10 < 76)) from by omega))
      have y62 : σ57 88 12 = τ 88 12 := ((hGσ57 88 12 (show ¬ ((88 = 88 ∧ (12 = 30)) ∨ (99 ≤ 88 ∧ 88 < 101)) from by omega))).trans (hGσ30 88 12 (show ¬ ((88 = 71 ∧ (12 = 1 ∨ 12 = 6 ∨ 12 = 7)) ∨ 88 = 72 ∨ (74 ≤ 88 ∧ 88 < 76)) from by omega))
      have f63 : (0 : Int) ≤ τ 88 12 ∧ τ 88 12 ≤ 400 := hIτ 88 12
      have y64 : σ57 0 13 = τ 0 13 := ((hGσ57 0 13 (show ¬ ((0 = 88 ∧ (13 = 30)) ∨ (99 ≤ 0 ∧ 0 < 101)) from by omega))).trans (hGσ30 0 13 (show ¬ ((0 = 71 ∧ (13 = 1 ∨ 13 = 6 ∨ 13 = 7)) ∨ 0 = 72 ∨ (74 ≤ 0 ∧ 0 < 76)) from by omega))
      have f65 : (-2147483648 : Int) ≤ τ 0 13 ∧ τ 0 13 ≤ 2147483647 := hIτ 0 13
      have y66 : σ57 88 17 = τ 88 17 := ((hGσ57 88 17 (show ¬ ((88 = 88 ∧ (17 = 30)) ∨ (99 ≤ 88 ∧ 88 < 101)) from by omega))).trans (hGσ30 88 17 (show ¬ ((88 = 71 ∧ (17 = 1 ∨ 17 = 6 ∨ 17 = 7)) ∨ 88 = 72 ∨ (74 ≤ 88 ∧ 88 < 76)) from by omega))
      have f67 : (0 : Int) ≤ τ 88 17 ∧ τ 88 17 ≤ 5 := hIτ 88 17
      have y68 : σ57 31 6 = τ 31 6 := ((hGσ57 31 6 (show ¬ ((31 = 88 ∧ (6 = 30)) ∨ (99 ≤ 31 ∧ 31 < 101)) from by omega))).trans (hGσ30 31 6 (show ¬ ((31 = 71 ∧ (6 = 1 ∨ 6 = 6 ∨ 6 = 7)) ∨ 31 = 72 ∨ (74 ≤ 31 ∧ 31 < 76)) from by omega))
      have f69 : (0 : Int) ≤ τ 31 6 ∧ τ 31 6 ≤ 1 := hIτ 31 6
      have y70 : σ57 39 6 = τ 39 6 := ((hGσ57 39 6 (show ¬ ((39 = 88 ∧ (6 = 30)) ∨ (99 ≤ 39 ∧ 39 < 101)) from by omega))).trans (hGσ30 39 6 (show ¬ ((39 = 71 ∧ (6 = 1 ∨ 6 = 6 ∨ 6 = 7)) ∨ 39 = 72 ∨ (74 ≤ 39 ∧ 39 < 76)) from by omega))
      have f71 : (0 : Int) ≤ τ 39 6 ∧ τ 39 6 ≤ 1 := hIτ 39 6
      have y72 : σ57 90 0 = τ 90 0 := ((hGσ57 90 0 (show ¬ ((90 = 88 ∧ (0 = 30)) ∨ (99 ≤ 90 ∧ 90 < 101)) from by omega))).trans (hGσ30 90 0 (show ¬ ((90 = 71 ∧ (0 = 1 ∨ 0 = 6 ∨ 0 = 7)) ∨ 90 = 72 ∨ (74 ≤ 90 ∧ 90 < 76)) from by omega))
      have f73 : (0 : Int) ≤ τ 90 0 ∧ τ 90 0 ≤ 1 := hIτ 90 0
      have y74 : σ57 90 1 = τ 90 1 := ((hGσ57 90 1 (show ¬ ((90 = 88 ∧ (1 = 30)) ∨ (99 ≤ 90 ∧ 90 < 101)) from by omega))).trans (hGσ30 90 1 (show ¬ ((90 = 71 ∧ (1 = 1 ∨ 1 = 6 ∨ 1 = 7)) ∨ 90 = 72 ∨ (74 ≤ 90 ∧ 90 < 76)) from by omega))
      have f75 : (0 : Int) ≤ τ 90 1 ∧ τ 90 1 ≤ 1 := hIτ 90 1
      exact K σ57 hIσ57 ⟨mσ57, by omega, sσ57, bσ57, by omega, by omega, by omega, tσ57, stσ57⟩
set_option maxHeartbeats 4000000 in
set_option maxRecDepth 100000 in
theorem w_case_24 {G : tw_G} (hX : tw_isX G) (hM : tw_isM G) {E : List Frame → Array Value → State → State → Prop} (hN : (gN G : Int) ≤ 2560) (i : Int) (hi : 0 ≤ i ∧ i + 5 ≤ (gN G : Int)) (τ : tw_M) (hIτ : tw_I τ) (hL : tw_LI τ) (K : ∀ τ' : tw_M, tw_I τ' → tw_LI τ' → tw_J G tw_ML E 1352 [(0, vR 300), (1, vR 0), (2, vR 88), (3, vI i)] [] τ') : tw_J G tw_ML E 904 [(0, vR 300), (1, vR 0), (2, vR 88), (3, vI i)] [] τ := by
  obtain ⟨mτ, zτ, sτ, bτ, fτ, kτ0, kτ1, tτ, stτ⟩ := hL
  have g9 : (0 : Int) ≤ τ 10 10 ∧ τ 10 10 ≤ 400 := hIτ 10 10
  obtain ⟨v1, ev1⟩ : ∃ v : Int, v = (gxs G (i + 1).toNat).toInt := ⟨_, rfl⟩
  have hv1 : (-2147483648 : Int) ≤ v1 ∧ v1 ≤ 2147483647 := by rw [ev1]; exact i32_in _
  obtain ⟨v2, ev2⟩ : ∃ v : Int, v = (gxs G (i + 2).toNat).toInt := ⟨_, rfl⟩
  have hv2 : (-2147483648 : Int) ≤ v2 ∧ v2 ≤ 2147483647 := by rw [ev2]; exact i32_in _
  obtain ⟨v3, ev3⟩ : ∃ v : Int, v = (gxs G (i + 3).toNat).toInt := ⟨_, rfl⟩
  have hv3 : (-2147483648 : Int) ≤ v3 ∧ v3 ≤ 2147483647 := by rw [ev3]; exact i32_in _
  obtain ⟨v4, ev4⟩ : ∃ v : Int, v = (gxs G (i + 4).toNat).toInt := ⟨_, rfl⟩
  have hv4 : (-2147483648 : Int) ≤ v4 ∧ v4 ≤ 2147483647 := by rw [ev4]; exact i32_in _
  refine j_aload_n (pc := 904) dL_law_904 rfl rfl ?_
  refine j_aload_n (pc := 905) dL_law_905 rfl rfl ?_
  refine j_iload_n (pc := 906) dL_law_906 rfl rfl ?_
  refine j_iconst (pc := 907) dL_law_907 ?_
  refine j_iadd (pc := 908) dL_law_908 ?_
  refine j_scrAt (pc := 909) dL_law_909 (by omega) (by omega) (by omega) ?_
  refine j_topV (show _ = v1 from ev1.symm) ?_
  refine j_callV (pc := 910) (As := [vI v1]) (st := []) (c_X11_down hX v1 ⟨by omega, by omega⟩ τ hIτ) mv_L_120 rfl rfl rfl (a_0 hX) dL_law_910 ⟨Nat.le_of_ble_eq_true rfl, Nat.le_of_ble_eq_true rfl⟩ ⟨Nat.le_of_ble_eq_true rfl, Nat.le_of_ble_eq_true rfl⟩ rfl (Nat.le_of_ble_eq_true rfl) rfl (fun z1 σ2 hz1 => ?_)
  obtain ⟨r4, rfl, hr4, hIσ2, hGσ2, -⟩ := hz1
  refine j_st (st' := [vI r4]) rfl ?_
  have y5 : σ2 10 10 = τ 10 10 := (hGσ2 10 10 (show ¬ (10 = 73) from by omega))
  have f6 : (0 : Int) ≤ τ 10 10 ∧ τ 10 10 ≤ 400 := hIτ 10 10
  have bσ2 : BY σ2 := BY_kept bτ (fun j => hGσ2 11 j (show ¬ (11 = 73) from by omega)) (fun j => hGσ2 98 j (show ¬ (98 = 73) from by omega)) (by omega)
  have mσ2 : mI σ2 := mI_kept mτ (fun j hj => hGσ2 89 j (show ¬ (89 = 73) from by omega)) (fun j => hGσ2 90 j (show ¬ (90 = 73) from by omega)) (hGσ2 91 0 (show ¬ (91 = 73) from by omega)) hIτ
  have sσ2 : SR σ2 := SR_kept sτ (fun c j h => hGσ2 c j (show ¬ (c = 73) from by omega)) (fun j => hGσ2 104 j (show ¬ (104 = 73) from by omega)) (fun j => hGσ2 105 j (show ¬ (105 = 73) from by omega))
  have tσ2 : TT σ2 := TT_kept tτ (fun c j h => hGσ2 c j (show ¬ (c = 73) from by omega)) (fun j h => hGσ2 89 j (show ¬ (89 = 73) from by omega))
  have stσ2 : ST σ2 := ST_F stτ (fun c j h => hGσ2 c j (show ¬ (c = 73) from by unfold STR at h; omega))
  refine j_pop (pc := 913) dL_law_913 rfl ?_
  refine j_aload_n (pc := 914) dL_law_914 rfl rfl ?_
  refine j_aload_n (pc := 915) dL_law_915 rfl rfl ?_
  refine j_iload_n (pc := 916) dL_law_916 rfl rfl ?_
  refine j_iconst (pc := 917) dL_law_917 ?_
  refine j_iadd (pc := 918) dL_law_918 ?_
  refine j_scrAt (pc := 919) dL_law_919 (by omega) (by omega) (by omega) ?_
  refine j_topV (show _ = v1 from ev1.symm) ?_
  refine j_callV (pc := 920) (As := [vI v1]) (st := []) (c_X12_down hM v1 ⟨by omega, by omega⟩ σ2 hIσ2) mv_L_123 rfl rfl rfl (a_88 hM) dL_law_920 ⟨Nat.le_of_ble_eq_true rfl, Nat.le_of_ble_eq_true rfl⟩ ⟨Nat.le_of_ble_eq_true rfl, Nat.le_of_ble_eq_true rfl⟩ rfl (Nat.le_of_ble_eq_true rfl) rfl (fun z7 σ8 hz7 => ?_)
  obtain ⟨r10, rfl, hr10, hIσ8, hGσ8, -⟩ := hz7
  refine j_st (st' := [vI r10]) rfl ?_
  have y11 : σ8 10 10 = τ 10 10 := ((hGσ8 10 10 (show ¬ (10 = 101) from by omega))).trans (hGσ2 10 10 (show ¬ (10 = 73) from by omega))
  have bσ8 : BY σ8 := BY_kept bσ2 (fun j => hGσ8 11 j (show ¬ (11 = 101) from by omega)) (fun j => hGσ8 98 j (show ¬ (98 = 101) from by omega)) (by omega)
  have mσ8 : mI σ8 := mI_kept mσ2 (fun j hj => hGσ8 89 j (show ¬ (89 = 101) from by omega)) (fun j => hGσ8 90 j (show ¬ (90 = 101) from by omega)) (hGσ8 91 0 (show ¬ (91 = 101) from by omega)) hIσ2
  have sσ8 : SR σ8 := SR_kept sσ2 (fun c j h => hGσ8 c j (show ¬ (c = 101) from by omega)) (fun j => hGσ8 104 j (show ¬ (104 = 101) from by omega)) (fun j => hGσ8 105 j (show ¬ (105 = 101) from by omega))
  have tσ8 : TT σ8 := TT_kept tσ2 (fun c j h => hGσ8 c j (show ¬ (c = 101) from by omega)) (fun j h => hGσ8 89 j (show ¬ (89 = 101) from by omega))
  have stσ8 : ST σ8 := ST_F stσ2 (fun c j h => hGσ8 c j (show ¬ (c = 101) from by unfold STR at h; omega))
  refine j_pop (pc := 923) dL_law_923 rfl ?_
  refine j_goto (pc := 924) (tgt := 1352) dL_law_924 rfl ?_
  have y12 : σ8 10 10 = τ 10 10 := ((hGσ8 10 10 (show ¬ (10 = 101) from by omega))).trans (hGσ2 10 10 (show ¬ (10 = 73) from by omega))
  have y13 : σ8 88 12 = τ 88 12 := ((hGσ8 88 12 (show ¬ (88 = 101) from by omega))).trans (hGσ2 88 12 (show ¬ (88 = 73) from by omega))
  have f14 : (0 : Int) ≤ τ 88 12 ∧ τ 88 12 ≤ 400 := hIτ 88 12
  have y15 : σ8 0 13 = τ 0 13 := ((hGσ8 0 13 (show ¬ (0 = 101) from by omega))).trans (hGσ2 0 13 (show ¬ (0 = 73) from by omega))
  have f16 : (-2147483648 : Int) ≤ τ 0 13 ∧ τ 0 13 ≤ 2147483647 := hIτ 0 13
  have y17 : σ8 88 17 = τ 88 17 := ((hGσ8 88 17 (show ¬ (88 = 101) from by omega))).trans (hGσ2 88 17 (show ¬ (88 = 73) from by omega))
  have f18 : (0 : Int) ≤ τ 88 17 ∧ τ 88 17 ≤ 5 := hIτ 88 17
  have y19 : σ8 31 6 = τ 31 6 := ((hGσ8 31 6 (show ¬ (31 = 101) from by omega))).trans (hGσ2 31 6 (show ¬ (31 = 73) from by omega))
  have f20 : (0 : Int) ≤ τ 31 6 ∧ τ 31 6 ≤ 1 := hIτ 31 6
  have y21 : σ8 39 6 = τ 39 6 := ((hGσ8 39 6 (show ¬ (39 = 101) from by omega))).trans (hGσ2 39 6 (show ¬ (39 = 73) from by omega))
  have f22 : (0 : Int) ≤ τ 39 6 ∧ τ 39 6 ≤ 1 := hIτ 39 6
  have y23 : σ8 90 0 = τ 90 0 := ((hGσ8 90 0 (show ¬ (90 = 101) from by omega))).trans (hGσ2 90 0 (show ¬ (90 = 73) from by omega))
  have f24 : (0 : Int) ≤ τ 90 0 ∧ τ 90 0 ≤ 1 := hIτ 90 0
  have y25 : σ8 90 1 = τ 90 1 := ((hGσ8 90 1 (show ¬ (90 = 101) from by omega))).trans (hGσ2 90 1 (show ¬ (90 = 73) from by omega))
  have f26 : (0 : Int) ≤ τ 90 1 ∧ τ 90 1 ≤ 1 := hIτ 90 1
  exact K σ8 hIσ8 ⟨mσ8, by omega, sσ8, bσ8, by omega, by omega, by omega, tσ8, stσ8⟩
set_option maxHeartbeats 4000000 in
set_option maxRecDepth 100000 in
theorem w_case_25 {G : tw_G} (hX : tw_isX G) (hM : tw_isM G) {E : List Frame → Array Value → State → State → Prop} (hN : (gN G : Int) ≤ 2560) (i : Int) (hi : 0 ≤ i ∧ i + 5 ≤ (gN G : Int)) (τ : tw_M) (hIτ : tw_I τ) (hL : tw_LI τ) (K : ∀ τ' : tw_M, tw_I τ' → tw_LI τ' → tw_J G tw_ML E 1352 [(0, vR 300), (1, vR 0), (2, vR 88), (3, vI i)] [] τ') : tw_J G tw_ML E 927 [(0, vR 300), (1, vR 0), (2, vR 88), (3, vI i)] [] τ := by
  obtain ⟨mτ, zτ, sτ, bτ, fτ, kτ0, kτ1, tτ, stτ⟩ := hL
  have g9 : (0 : Int) ≤ τ 10 10 ∧ τ 10 10 ≤ 400 := hIτ 10 10
  obtain ⟨v1, ev1⟩ : ∃ v : Int, v = (gxs G (i + 1).toNat).toInt := ⟨_, rfl⟩
  have hv1 : (-2147483648 : Int) ≤ v1 ∧ v1 ≤ 2147483647 := by rw [ev1]; exact i32_in _
  obtain ⟨v2, ev2⟩ : ∃ v : Int, v = (gxs G (i + 2).toNat).toInt := ⟨_, rfl⟩
  have hv2 : (-2147483648 : Int) ≤ v2 ∧ v2 ≤ 2147483647 := by rw [ev2]; exact i32_in _
  obtain ⟨v3, ev3⟩ : ∃ v : Int, v = (gxs G (i + 3).toNat).toInt := ⟨_, rfl⟩
  have hv3 : (-2147483648 : Int) ≤ v3 ∧ v3 ≤ 2147483647 := by rw [ev3]; exact i32_in _
  obtain ⟨v4, ev4⟩ : ∃ v : Int, v = (gxs G (i + 4).toNat).toInt := ⟨_, rfl⟩
  have hv4 : (-2147483648 : Int) ≤ v4 ∧ v4 ≤ 2147483647 := by rw [ev4]; exact i32_in _
  refine j_aload_n (pc := 927) dL_law_927 rfl rfl ?_
  refine j_aload_n (pc := 928) dL_law_928 rfl rfl ?_
  refine j_iload_n (pc := 929) dL_law_929 rfl rfl ?_
  refine j_iconst (pc := 930) dL_law_930 ?_
  refine j_iadd (pc := 931) dL_law_931 ?_
  refine j_scrAt (pc := 932) dL_law_932 (by omega) (by omega) (by omega) ?_
  refine j_topV (show _ = v1 from ev1.symm) ?_
  refine j_aload_n (pc := 933) dL_law_933 rfl rfl ?_
  refine j_iload_n (pc := 934) dL_law_934 rfl rfl ?_
  refine j_iconst (pc := 935) dL_law_935 ?_
  refine j_iadd (pc := 936) dL_law_936 ?_
  refine j_scrAt (pc := 937) dL_law_937 (by omega) (by omega) (by omega) ?_
  refine j_topV (show _ = v2 from ev2.symm) ?_
  refine j_ifR_eq (pc := 938) (tgt := 945) ⟨by omega, by omega⟩ dL_law_938 rfl (fun h1 => ?_) (fun h1 => ?_)
  · refine j_iconst (pc := 945) dL_law_945 ?_
    refine j_callV (pc := 946) (As := [vI v1, vI 0]) (st := []) (c_X11_tried hX v1 ⟨by omega, by omega⟩ 0 ⟨by omega, by omega⟩ τ hIτ) mv_L_124 rfl rfl rfl (a_0 hX) dL_law_946 ⟨Nat.le_of_ble_eq_true rfl, Nat.le_of_ble_eq_true rfl⟩ ⟨Nat.le_of_ble_eq_true rfl, Nat.le_of_ble_eq_true rfl⟩ rfl (Nat.le_of_ble_eq_true rfl) rfl (fun z2 σ3 hz2 => ?_)
    obtain ⟨r5, rfl, hr5, hIσ3, hGσ3, q4_0⟩ := hz2
    replace q4_0 : (r5 = -1 ∧ ¬ (v1 = 0 ∨ v1 = 1) ∧ σ3 29 0 = τ 29 0 ∧ σ3 30 0 = τ 30 0 ∧ σ3 29 1 = τ 29 1 ∧ σ3 30 1 = τ 30 1) ∨ (r5 = -3 ∧ (v1 = 0 ∨ v1 = 1) ∧ 999 ≤ τ 29 0 + τ 29 1 ∧ σ3 29 0 = τ 29 0 ∧ σ3 30 0 = τ 30 0 ∧ σ3 29 1 = τ 29 1 ∧ σ3 30 1 = τ 30 1) ∨ (v1 = 0 ∧ τ 29 0 + τ 29 1 < 999 ∧ r5 = τ 29 0 + 1 ∧ σ3 29 0 = τ 29 0 + 1 ∧ (2147483647 ≤ τ 30 0 ∨ σ3 30 0 = τ 30 0 + (0 : Int)) ∧ σ3 29 1 = τ 29 1 ∧ σ3 30 1 = τ 30 1) ∨ (v1 = 1 ∧ τ 29 0 + τ 29 1 < 999 ∧ r5 = τ 29 1 + 1 ∧ σ3 29 1 = τ 29 1 + 1 ∧ (2147483647 ≤ τ 30 1 ∨ σ3 30 1 = τ 30 1 + (0 : Int)) ∧ σ3 29 0 = τ 29 0 ∧ σ3 30 0 = τ 30 0) := q4_0
    refine j_st (st' := [vI r5]) rfl ?_
    have y6 : σ3 10 10 = τ 10 10 := (hGσ3 10 10 (show ¬ ((29 ≤ 10 ∧ 10 < 31)) from by omega))
    have f7 : (0 : Int) ≤ τ 10 10 ∧ τ 10 10 ≤ 400 := hIτ 10 10
    have bσ3 : BY σ3 := BY_kept bτ (fun j => hGσ3 11 j (show ¬ ((29 ≤ 11 ∧ 11 < 31)) from by omega)) (fun j => hGσ3 98 j (show ¬ ((29 ≤ 98 ∧ 98 < 31)) from by omega)) (by omega)
    have mσ3 : mI σ3 := mI_kept mτ (fun j hj => hGσ3 89 j (show ¬ ((29 ≤ 89 ∧ 89 < 31)) from by omega)) (fun j => hGσ3 90 j (show ¬ ((29 ≤ 90 ∧ 90 < 31)) from by omega)) (hGσ3 91 0 (show ¬ ((29 ≤ 91 ∧ 91 < 31)) from by omega)) hIτ
    have sσ3 : SR σ3 := SR_kept sτ (fun c j h => hGσ3 c j (show ¬ ((29 ≤ c ∧ c < 31)) from by omega)) (fun j => hGσ3 104 j (show ¬ ((29 ≤ 104 ∧ 104 < 31)) from by omega)) (fun j => hGσ3 105 j (show ¬ ((29 ≤ 105 ∧ 105 < 31)) from by omega))
    have stσ3 : ST σ3 := ST_F stτ (fun c j h => hGσ3 c j (show ¬ ((29 ≤ c ∧ c < 31)) from by unfold STR at h; omega))
    refine j_pop (pc := 949) dL_law_949 rfl ?_
    refine j_aload_n (pc := 950) dL_law_950 rfl rfl ?_
    refine j_aload_n (pc := 951) dL_law_951 rfl rfl ?_
    refine j_iload_n (pc := 952) dL_law_952 rfl rfl ?_
    refine j_iconst (pc := 953) dL_law_953 ?_
    refine j_iadd (pc := 954) dL_law_954 ?_
    refine j_scrAt (pc := 955) dL_law_955 (by omega) (by omega) (by omega) ?_
    refine j_topV (show _ = v1 from ev1.symm) ?_
    refine j_aload_n (pc := 956) dL_law_956 rfl rfl ?_
    refine j_iload_n (pc := 957) dL_law_957 rfl rfl ?_
    refine j_iconst (pc := 958) dL_law_958 ?_
    refine j_iadd (pc := 959) dL_law_959 ?_
    refine j_scrAt (pc := 960) dL_law_960 (by omega) (by omega) (by omega) ?_
    refine j_topV (show _ = v2 from ev2.symm) ?_
    refine j_ifR_eq (pc := 961) (tgt := 968) ⟨by omega, by omega⟩ dL_law_961 rfl (fun h8 => ?_) (fun h8 => by exfalso; omega)
    refine j_iconst (pc := 968) dL_law_968 ?_
    refine j_callV (pc := 969) (As := [vI v1, vI 0]) (st := []) (c_X12_tried hM v1 ⟨by omega, by omega⟩ 0 ⟨by omega, by omega⟩ σ3 hIσ3 mσ3) mv_L_127 rfl rfl rfl (a_88 hM) dL_law_969 ⟨Nat.le_of_ble_eq_true rfl, Nat.le_of_ble_eq_true rfl⟩ ⟨Nat.le_of_ble_eq_true rfl, Nat.le_of_ble_eq_true rfl⟩ rfl (Nat.le_of_ble_eq_true rfl) rfl (fun z9 σ10 hz9 => ?_)
    obtain ⟨r12, rfl, hr12, hIσ10, hGσ10, q11_0, q11_1⟩ := hz9
    replace q11_0 : mI σ10 := q11_0
    replace q11_1 : (r12 = -1 ∧ ¬ (v1 = 0 ∨ v1 = 1) ∧ σ10 89 93 = σ3 89 93 ∧ σ10 89 94 = σ3 89 94 ∧ σ10 89 95 = σ3 89 95 ∧ σ10 89 96 = σ3 89 96) ∨ (r12 = -3 ∧ (v1 = 0 ∨ v1 = 1) ∧ 999 ≤ σ3 89 93 + σ3 89 95 ∧ σ10 89 93 = σ3 89 93 ∧ σ10 89 94 = σ3 89 94 ∧ σ10 89 95 = σ3 89 95 ∧ σ10 89 96 = σ3 89 96) ∨ (v1 = 0 ∧ σ3 89 93 + σ3 89 95 < 999 ∧ r12 = σ3 89 93 + 1 ∧ σ10 89 93 = σ3 89 93 + 1 ∧ (2147483647 ≤ σ3 89 94 ∨ σ10 89 94 = σ3 89 94 + (0 : Int)) ∧ σ10 89 95 = σ3 89 95 ∧ σ10 89 96 = σ3 89 96) ∨ (v1 = 1 ∧ σ3 89 93 + σ3 89 95 < 999 ∧ r12 = σ3 89 95 + 1 ∧ σ10 89 95 = σ3 89 95 + 1 ∧ (2147483647 ≤ σ3 89 96 ∨ σ10 89 96 = σ3 89 96 + (0 : Int)) ∧ σ10 89 93 = σ3 89 93 ∧ σ10 89 94 = σ3 89 94) := q11_1
    have y13 : σ3 89 93 = τ 89 93 := (hGσ3 89 93 (show ¬ ((29 ≤ 89 ∧ 89 < 31)) from by omega))
    have f14 : (0 : Int) ≤ τ 89 93 ∧ τ 89 93 ≤ 999 := hIτ 89 93
    have y15 : σ3 89 94 = τ 89 94 := (hGσ3 89 94 (show ¬ ((29 ≤ 89 ∧ 89 < 31)) from by omega))
    have f16 : (-2147483648 : Int) ≤ τ 89 94 ∧ τ 89 94 ≤ 2147483647 := hIτ 89 94
    have y17 : σ3 89 95 = τ 89 95 := (hGσ3 89 95 (show ¬ ((29 ≤ 89 ∧ 89 < 31)) from by omega))
    have f18 : (0 : Int) ≤ τ 89 95 ∧ τ 89 95 ≤ 999 := hIτ 89 95
    have y19 : σ3 89 96 = τ 89 96 := (hGσ3 89 96 (show ¬ ((29 ≤ 89 ∧ 89 < 31)) from by omega))
    have f20 : (-2147483648 : Int) ≤ τ 89 96 ∧ τ 89 96 ≤ 2147483647 := hIτ 89 96
    refine j_st (st' := [vI r12]) rfl ?_
    have y21 : σ10 10 10 = τ 10 10 := ((hGσ10 10 10 (show ¬ ((10 = 89 ∧ 93 ≤ 10 ∧ 10 < 97)) from by omega))).trans (hGσ3 10 10 (show ¬ ((29 ≤ 10 ∧ 10 < 31)) from by omega))
    have bσ10 : BY σ10 := BY_kept bσ3 (fun j => hGσ10 11 j (show ¬ ((11 = 89 ∧ 93 ≤ j ∧ j < 97)) from by omega)) (fun j => hGσ10 98 j (show ¬ ((98 = 89 ∧ 93 ≤ j ∧ j < 97)) from by omega)) (by omega)
    have mσ10 : mI σ10 := q11_0
    have sσ10 : SR σ10 := SR_kept sσ3 (fun c j h => hGσ10 c j (show ¬ ((c = 89 ∧ 93 ≤ j ∧ j < 97)) from by omega)) (fun j => hGσ10 104 j (show ¬ ((104 = 89 ∧ 93 ≤ j ∧ j < 97)) from by omega)) (fun j => hGσ10 105 j (show ¬ ((105 = 89 ∧ 93 ≤ j ∧ j < 97)) from by omega))
    have stσ10 : ST σ10 := ST_F stσ3 (fun c j h => hGσ10 c j (show ¬ ((c = 89 ∧ 93 ≤ j ∧ j < 97)) from by unfold STR at h; omega))
    refine j_pop (pc := 972) dL_law_972 rfl ?_
    refine j_goto (pc := 973) (tgt := 1352) dL_law_973 rfl ?_
    have y22 : σ10 10 10 = τ 10 10 := ((hGσ10 10 10 (show ¬ ((10 = 89 ∧ 93 ≤ 10 ∧ 10 < 97)) from by omega))).trans (hGσ3 10 10 (show ¬ ((29 ≤ 10 ∧ 10 < 31)) from by omega))
    have y23 : σ10 88 12 = τ 88 12 := ((hGσ10 88 12 (show ¬ ((88 = 89 ∧ 93 ≤ 12 ∧ 12 < 97)) from by omega))).trans (hGσ3 88 12 (show ¬ ((29 ≤ 88 ∧ 88 < 31)) from by omega))
    have f24 : (0 : Int) ≤ τ 88 12 ∧ τ 88 12 ≤ 400 := hIτ 88 12
    have y25 : σ10 0 13 = τ 0 13 := ((hGσ10 0 13 (show ¬ ((0 = 89 ∧ 93 ≤ 13 ∧ 13 < 97)) from by omega))).trans (hGσ3 0 13 (show ¬ ((29 ≤ 0 ∧ 0 < 31)) from by omega))
    have f26 : (-2147483648 : Int) ≤ τ 0 13 ∧ τ 0 13 ≤ 2147483647 := hIτ 0 13
    have y27 : σ10 88 17 = τ 88 17 := ((hGσ10 88 17 (show ¬ ((88 = 89 ∧ 93 ≤ 17 ∧ 17 < 97)) from by omega))).trans (hGσ3 88 17 (show ¬ ((29 ≤ 88 ∧ 88 < 31)) from by omega))
    have f28 : (0 : Int) ≤ τ 88 17 ∧ τ 88 17 ≤ 5 := hIτ 88 17
    have y29 : σ10 31 6 = τ 31 6 := ((hGσ10 31 6 (show ¬ ((31 = 89 ∧ 93 ≤ 6 ∧ 6 < 97)) from by omega))).trans (hGσ3 31 6 (show ¬ ((29 ≤ 31 ∧ 31 < 31)) from by omega))
    have f30 : (0 : Int) ≤ τ 31 6 ∧ τ 31 6 ≤ 1 := hIτ 31 6
    have y31 : σ10 39 6 = τ 39 6 := ((hGσ10 39 6 (show ¬ ((39 = 89 ∧ 93 ≤ 6 ∧ 6 < 97)) from by omega))).trans (hGσ3 39 6 (show ¬ ((29 ≤ 39 ∧ 39 < 31)) from by omega))
    have f32 : (0 : Int) ≤ τ 39 6 ∧ τ 39 6 ≤ 1 := hIτ 39 6
    have y33 : σ10 90 0 = τ 90 0 := ((hGσ10 90 0 (show ¬ ((90 = 89 ∧ 93 ≤ 0 ∧ 0 < 97)) from by omega))).trans (hGσ3 90 0 (show ¬ ((29 ≤ 90 ∧ 90 < 31)) from by omega))
    have f34 : (0 : Int) ≤ τ 90 0 ∧ τ 90 0 ≤ 1 := hIτ 90 0
    have y35 : σ10 90 1 = τ 90 1 := ((hGσ10 90 1 (show ¬ ((90 = 89 ∧ 93 ≤ 1 ∧ 1 < 97)) from by omega))).trans (hGσ3 90 1 (show ¬ ((29 ≤ 90 ∧ 90 < 31)) from by omega))
    have f36 : (0 : Int) ≤ τ 90 1 ∧ τ 90 1 ≤ 1 := hIτ 90 1
    obtain ⟨t0, t1, t2, t3, t4, t5, t6, t7, t8, t9, t10, t11, t12, t13, t14, t15, t16, t17⟩ := tτ
    have y37 : σ10 29 0 = σ3 29 0 := (hGσ10 29 0 (show ¬ ((29 = 89 ∧ 93 ≤ 0 ∧ 0 < 97)) from by omega))
    have f38 : (0 : Int) ≤ σ3 29 0 ∧ σ3 29 0 ≤ 999 := hIσ3 29 0
    have y39 : σ10 30 0 = σ3 30 0 := (hGσ10 30 0 (show ¬ ((30 = 89 ∧ 93 ≤ 0 ∧ 0 < 97)) from by omega))
    have f40 : (-2147483648 : Int) ≤ σ3 30 0 ∧ σ3 30 0 ≤ 2147483647 := hIσ3 30 0
    have y41 : σ10 29 1 = σ3 29 1 := (hGσ10 29 1 (show ¬ ((29 = 89 ∧ 93 ≤ 1 ∧ 1 < 97)) from by omega))
    have f42 : (0 : Int) ≤ σ3 29 1 ∧ σ3 29 1 ≤ 999 := hIσ3 29 1
    have y43 : σ10 30 1 = σ3 30 1 := (hGσ10 30 1 (show ¬ ((30 = 89 ∧ 93 ≤ 1 ∧ 1 < 97)) from by omega))
    have f44 : (-2147483648 : Int) ≤ σ3 30 1 ∧ σ3 30 1 ≤ 2147483647 := hIσ3 30 1
    have y45 : σ10 37 0 = τ 37 0 := ((hGσ10 37 0 (show ¬ ((37 = 89 ∧ 93 ≤ 0 ∧ 0 < 97)) from by omega))).trans (hGσ3 37 0 (show ¬ ((29 ≤ 37 ∧ 37 < 31)) from by omega))
    have f46 : (0 : Int) ≤ τ 37 0 ∧ τ 37 0 ≤ 999 := hIτ 37 0
    have y47 : σ10 38 0 = τ 38 0 := ((hGσ10 38 0 (show ¬ ((38 = 89 ∧ 93 ≤ 0 ∧ 0 < 97)) from by omega))).trans (hGσ3 38 0 (show ¬ ((29 ≤ 38 ∧ 38 < 31)) from by omega))
    have f48 : (-2147483648 : Int) ≤ τ 38 0 ∧ τ 38 0 ≤ 2147483647 := hIτ 38 0
    have y49 : σ10 37 1 = τ 37 1 := ((hGσ10 37 1 (show ¬ ((37 = 89 ∧ 93 ≤ 1 ∧ 1 < 97)) from by omega))).trans (hGσ3 37 1 (show ¬ ((29 ≤ 37 ∧ 37 < 31)) from by omega))
    have f50 : (0 : Int) ≤ τ 37 1 ∧ τ 37 1 ≤ 999 := hIτ 37 1
    have y51 : σ10 38 1 = τ 38 1 := ((hGσ10 38 1 (show ¬ ((38 = 89 ∧ 93 ≤ 1 ∧ 1 < 97)) from by omega))).trans (hGσ3 38 1 (show ¬ ((29 ≤ 38 ∧ 38 < 31)) from by omega))
    have f52 : (-2147483648 : Int) ≤ τ 38 1 ∧ τ 38 1 ≤ 2147483647 := hIτ 38 1
    have y53 : σ10 45 0 = τ 45 0 := ((hGσ10 45 0 (show ¬ ((45 = 89 ∧ 93 ≤ 0 ∧ 0 < 97)) from by omega))).trans (hGσ3 45 0 (show ¬ ((29 ≤ 45 ∧ 45 < 31)) from by omega))
    have f54 : (0 : Int) ≤ τ 45 0 ∧ τ 45 0 ≤ 999 := hIτ 45 0
    have y55 : σ10 46 0 = τ 46 0 := ((hGσ10 46 0 (show ¬ ((46 = 89 ∧ 93 ≤ 0 ∧ 0 < 97)) from by omega))).trans (hGσ3 46 0 (show ¬ ((29 ≤ 46 ∧ 46 < 31)) from by omega))
    have f56 : (-2147483648 : Int) ≤ τ 46 0 ∧ τ 46 0 ≤ 2147483647 := hIτ 46 0
    have y57 : σ10 45 1 = τ 45 1 := ((hGσ10 45 1 (show ¬ ((45 = 89 ∧ 93 ≤ 1 ∧ 1 < 97)) from by omega))).trans (hGσ3 45 1 (show ¬ ((29 ≤ 45 ∧ 45 < 31)) from by omega))
    have f58 : (0 : Int) ≤ τ 45 1 ∧ τ 45 1 ≤ 999 := hIτ 45 1
    have y59 : σ10 46 1 = τ 46 1 := ((hGσ10 46 1 (show ¬ ((46 = 89 ∧ 93 ≤ 1 ∧ 1 < 97)) from by omega))).trans (hGσ3 46 1 (show ¬ ((29 ≤ 46 ∧ 46 < 31)) from by omega))
    have f60 : (-2147483648 : Int) ≤ τ 46 1 ∧ τ 46 1 ≤ 2147483647 := hIτ 46 1
    have u193 : σ10 89 193 = τ 89 193 := ((hGσ10 89 193 (show ¬ ((89 = 89 ∧ 93 ≤ 193 ∧ 193 < 97)) from by omega))).trans (hGσ3 89 193 (show ¬ ((29 ≤ 89 ∧ 89 < 31)) from by omega))
    have u194 : σ10 89 194 = τ 89 194 := ((hGσ10 89 194 (show ¬ ((89 = 89 ∧ 93 ≤ 194 ∧ 194 < 97)) from by omega))).trans (hGσ3 89 194 (show ¬ ((29 ≤ 89 ∧ 89 < 31)) from by omega))
    have u195 : σ10 89 195 = τ 89 195 := ((hGσ10 89 195 (show ¬ ((89 = 89 ∧ 93 ≤ 195 ∧ 195 < 97)) from by omega))).trans (hGσ3 89 195 (show ¬ ((29 ≤ 89 ∧ 89 < 31)) from by omega))
    have u196 : σ10 89 196 = τ 89 196 := ((hGσ10 89 196 (show ¬ ((89 = 89 ∧ 93 ≤ 196 ∧ 196 < 97)) from by omega))).trans (hGσ3 89 196 (show ¬ ((29 ≤ 89 ∧ 89 < 31)) from by omega))
    have u293 : σ10 89 293 = τ 89 293 := ((hGσ10 89 293 (show ¬ ((89 = 89 ∧ 93 ≤ 293 ∧ 293 < 97)) from by omega))).trans (hGσ3 89 293 (show ¬ ((29 ≤ 89 ∧ 89 < 31)) from by omega))
    have u294 : σ10 89 294 = τ 89 294 := ((hGσ10 89 294 (show ¬ ((89 = 89 ∧ 93 ≤ 294 ∧ 294 < 97)) from by omega))).trans (hGσ3 89 294 (show ¬ ((29 ≤ 89 ∧ 89 < 31)) from by omega))
    have u295 : σ10 89 295 = τ 89 295 := ((hGσ10 89 295 (show ¬ ((89 = 89 ∧ 93 ≤ 295 ∧ 295 < 97)) from by omega))).trans (hGσ3 89 295 (show ¬ ((29 ≤ 89 ∧ 89 < 31)) from by omega))
    have u296 : σ10 89 296 = τ 89 296 := ((hGσ10 89 296 (show ¬ ((89 = 89 ∧ 93 ≤ 296 ∧ 296 < 97)) from by omega))).trans (hGσ3 89 296 (show ¬ ((29 ≤ 89 ∧ 89 < 31)) from by omega))
    exact K σ10 hIσ10 ⟨mσ10, by omega, sσ10, bσ10, by omega, by omega, by omega, ⟨by clear t14 t15 t16 t17; omega, by clear t14 t15 t16 t17; omega, by clear t14 t15 t16 t17; omega, by clear t14 t15 t16 t17; omega, by clear t14 t15 t16 t17 q4_0 q11_1; omega, by clear t14 t15 t16 t17 q4_0 q11_1; omega, by clear t14 t15 t16 t17 q4_0 q11_1; omega, by clear t14 t15 t16 t17 q4_0 q11_1; omega, by clear t14 t15 t16 t17 q4_0 q11_1; omega, by clear t14 t15 t16 t17 q4_0 q11_1; omega, by clear t14 t15 t16 t17 q4_0 q11_1; omega, by clear t14 t15 t16 t17 q4_0 q11_1; omega, by clear t2 t3 t6 t7 t10 t11 t13 t15 t17; omega, by clear t0 t1 t4 t5 t8 t9 t12 t14 t16; omega, by clear t2 t3 t6 t7 t10 t11 t13 t15 t17 q4_0 q11_1; omega, by clear t0 t1 t4 t5 t8 t9 t12 t14 t16 q4_0 q11_1; omega, by clear t2 t3 t6 t7 t10 t11 t13 t15 t17 q4_0 q11_1; omega, by clear t0 t1 t4 t5 t8 t9 t12 t14 t16 q4_0 q11_1; omega⟩, stσ10⟩
  · refine j_iconst (pc := 941) dL_law_941 ?_
    refine j_goto (pc := 942) (tgt := 946) dL_law_942 rfl ?_
    refine j_callV (pc := 946) (As := [vI v1, vI 1]) (st := []) (c_X11_tried hX v1 ⟨by omega, by omega⟩ 1 ⟨by omega, by omega⟩ τ hIτ) mv_L_124 rfl rfl rfl (a_0 hX) dL_law_946 ⟨Nat.le_of_ble_eq_true rfl, Nat.le_of_ble_eq_true rfl⟩ ⟨Nat.le_of_ble_eq_true rfl, Nat.le_of_ble_eq_true rfl⟩ rfl (Nat.le_of_ble_eq_true rfl) rfl (fun z61 σ62 hz61 => ?_)
    obtain ⟨r64, rfl, hr64, hIσ62, hGσ62, q63_0⟩ := hz61
    replace q63_0 : (r64 = -1 ∧ ¬ (v1 = 0 ∨ v1 = 1) ∧ σ62 29 0 = τ 29 0 ∧ σ62 30 0 = τ 30 0 ∧ σ62 29 1 = τ 29 1 ∧ σ62 30 1 = τ 30 1) ∨ (r64 = -3 ∧ (v1 = 0 ∨ v1 = 1) ∧ 999 ≤ τ 29 0 + τ 29 1 ∧ σ62 29 0 = τ 29 0 ∧ σ62 30 0 = τ 30 0 ∧ σ62 29 1 = τ 29 1 ∧ σ62 30 1 = τ 30 1) ∨ (v1 = 0 ∧ τ 29 0 + τ 29 1 < 999 ∧ r64 = τ 29 0 + 1 ∧ σ62 29 0 = τ 29 0 + 1 ∧ (2147483647 ≤ τ 30 0 ∨ σ62 30 0 = τ 30 0 + (1 : Int)) ∧ σ62 29 1 = τ 29 1 ∧ σ62 30 1 = τ 30 1) ∨ (v1 = 1 ∧ τ 29 0 + τ 29 1 < 999 ∧ r64 = τ 29 1 + 1 ∧ σ62 29 1 = τ 29 1 + 1 ∧ (2147483647 ≤ τ 30 1 ∨ σ62 30 1 = τ 30 1 + (1 : Int)) ∧ σ62 29 0 = τ 29 0 ∧ σ62 30 0 = τ 30 0) := q63_0
    refine j_st (st' := [vI r64]) rfl ?_
    have y65 : σ62 10 10 = τ 10 10 := (hGσ62 10 10 (show ¬ ((29 ≤ 10 ∧ 10 < 31)) from by omega))
    have f66 : (0 : Int) ≤ τ 10 10 ∧ τ 10 10 ≤ 400 := hIτ 10 10
    have bσ62 : BY σ62 := BY_kept bτ (fun j => hGσ62 11 j (show ¬ ((29 ≤ 11 ∧ 11 < 31)) from by omega)) (fun j => hGσ62 98 j (show ¬ ((29 ≤ 98 ∧ 98 < 31)) from by omega)) (by omega)
    have mσ62 : mI σ62 := mI_kept mτ (fun j hj => hGσ62 89 j (show ¬ ((29 ≤ 89 ∧ 89 < 31)) from by omega)) (fun j => hGσ62 90 j (show ¬ ((29 ≤ 90 ∧ 90 < 31)) from by omega)) (hGσ62 91 0 (show ¬ ((29 ≤ 91 ∧ 91 < 31)) from by omega)) hIτ
    have sσ62 : SR σ62 := SR_kept sτ (fun c j h => hGσ62 c j (show ¬ ((29 ≤ c ∧ c < 31)) from by omega)) (fun j => hGσ62 104 j (show ¬ ((29 ≤ 104 ∧ 104 < 31)) from by omega)) (fun j => hGσ62 105 j (show ¬ ((29 ≤ 105 ∧ 105 < 31)) from by omega))
    have stσ62 : ST σ62 := ST_F stτ (fun c j h => hGσ62 c j (show ¬ ((29 ≤ c ∧ c < 31)) from by unfold STR at h; omega))
    refine j_pop (pc := 949) dL_law_949 rfl ?_
    refine j_aload_n (pc := 950) dL_law_950 rfl rfl ?_
    refine j_aload_n (pc := 951) dL_law_951 rfl rfl ?_
    refine j_iload_n (pc := 952) dL_law_952 rfl rfl ?_
    refine j_iconst (pc := 953) dL_law_953 ?_
    refine j_iadd (pc := 954) dL_law_954 ?_
    refine j_scrAt (pc := 955) dL_law_955 (by omega) (by omega) (by omega) ?_
    refine j_topV (show _ = v1 from ev1.symm) ?_
    refine j_aload_n (pc := 956) dL_law_956 rfl rfl ?_
    refine j_iload_n (pc := 957) dL_law_957 rfl rfl ?_
    refine j_iconst (pc := 958) dL_law_958 ?_
    refine j_iadd (pc := 959) dL_law_959 ?_
    refine j_scrAt (pc := 960) dL_law_960 (by omega) (by omega) (by omega) ?_
    refine j_topV (show _ = v2 from ev2.symm) ?_
    refine j_ifR_eq (pc := 961) (tgt := 968) ⟨by omega, by omega⟩ dL_law_961 rfl (fun h67 => ?_) (fun h67 => ?_)
    · refine j_iconst (pc := 968) dL_law_968 ?_
      refine j_callV (pc := 969) (As := [vI v1, vI 0]) (st := []) (c_X12_tried hM v1 ⟨by omega, by omega⟩ 0 ⟨by omega, by omega⟩ σ62 hIσ62 mσ62) mv_L_127 rfl rfl rfl (a_88 hM) dL_law_969 ⟨Nat.le_of_ble_eq_true rfl, Nat.le_of_ble_eq_true rfl⟩ ⟨Nat.le_of_ble_eq_true rfl, Nat.le_of_ble_eq_true rfl⟩ rfl (Nat.le_of_ble_eq_true rfl) rfl (fun z68 σ69 hz68 => ?_)
      obtain ⟨r71, rfl, hr71, hIσ69, hGσ69, q70_0, q70_1⟩ := hz68
      replace q70_0 : mI σ69 := q70_0
      replace q70_1 : (r71 = -1 ∧ ¬ (v1 = 0 ∨ v1 = 1) ∧ σ69 89 93 = σ62 89 93 ∧ σ69 89 94 = σ62 89 94 ∧ σ69 89 95 = σ62 89 95 ∧ σ69 89 96 = σ62 89 96) ∨ (r71 = -3 ∧ (v1 = 0 ∨ v1 = 1) ∧ 999 ≤ σ62 89 93 + σ62 89 95 ∧ σ69 89 93 = σ62 89 93 ∧ σ69 89 94 = σ62 89 94 ∧ σ69 89 95 = σ62 89 95 ∧ σ69 89 96 = σ62 89 96) ∨ (v1 = 0 ∧ σ62 89 93 + σ62 89 95 < 999 ∧ r71 = σ62 89 93 + 1 ∧ σ69 89 93 = σ62 89 93 + 1 ∧ (2147483647 ≤ σ62 89 94 ∨ σ69 89 94 = σ62 89 94 + (0 : Int)) ∧ σ69 89 95 = σ62 89 95 ∧ σ69 89 96 = σ62 89 96) ∨ (v1 = 1 ∧ σ62 89 93 + σ62 89 95 < 999 ∧ r71 = σ62 89 95 + 1 ∧ σ69 89 95 = σ62 89 95 + 1 ∧ (2147483647 ≤ σ62 89 96 ∨ σ69 89 96 = σ62 89 96 + (0 : Int)) ∧ σ69 89 93 = σ62 89 93 ∧ σ69 89 94 = σ62 89 94) := q70_1
      have y72 : σ62 89 93 = τ 89 93 := (hGσ62 89 93 (show ¬ ((29 ≤ 89 ∧ 89 < 31)) from by omega))
      have f73 : (0 : Int) ≤ τ 89 93 ∧ τ 89 93 ≤ 999 := hIτ 89 93
      have y74 : σ62 89 94 = τ 89 94 := (hGσ62 89 94 (show ¬ ((29 ≤ 89 ∧ 89 < 31)) from by omega))
      have f75 : (-2147483648 : Int) ≤ τ 89 94 ∧ τ 89 94 ≤ 2147483647 := hIτ 89 94
      have y76 : σ62 89 95 = τ 89 95 := (hGσ62 89 95 (show ¬ ((29 ≤ 89 ∧ 89 < 31)) from by omega))
      have f77 : (0 : Int) ≤ τ 89 95 ∧ τ 89 95 ≤ 999 := hIτ 89 95
      have y78 : σ62 89 96 = τ 89 96 := (hGσ62 89 96 (show ¬ ((29 ≤ 89 ∧ 89 < 31)) from by omega))
      have f79 : (-2147483648 : Int) ≤ τ 89 96 ∧ τ 89 96 ≤ 2147483647 := hIτ 89 96
      refine j_st (st' := [vI r71]) rfl ?_
      have y80 : σ69 10 10 = τ 10 10 := ((hGσ69 10 10 (show ¬ ((10 = 89 ∧ 93 ≤ 10 ∧ 10 < 97)) from by omega))).trans (hGσ62 10 10 (show ¬ ((29 ≤ 10 ∧ 10 < 31)) from by omega))
      have bσ69 : BY σ69 := BY_kept bσ62 (fun j => hGσ69 11 j (show ¬ ((11 = 89 ∧ 93 ≤ j ∧ j < 97)) from by omega)) (fun j => hGσ69 98 j (show ¬ ((98 = 89 ∧ 93 ≤ j ∧ j < 97)) from by omega)) (by omega)
      have mσ69 : mI σ69 := q70_0
      have sσ69 : SR σ69 := SR_kept sσ62 (fun c j h => hGσ69 c j (show ¬ ((c = 89 ∧ 93 ≤ j ∧ j < 97)) from by omega)) (fun j => hGσ69 104 j (show ¬ ((104 = 89 ∧ 93 ≤ j ∧ j < 97)) from by omega)) (fun j => hGσ69 105 j (show ¬ ((105 = 89 ∧ 93 ≤ j ∧ j < 97)) from by omega))
      have stσ69 : ST σ69 := ST_F stσ62 (fun c j h => hGσ69 c j (show ¬ ((c = 89 ∧ 93 ≤ j ∧ j < 97)) from by unfold STR at h; omega))
      refine j_pop (pc := 972) dL_law_972 rfl ?_
      refine j_goto (pc := 973) (tgt := 1352) dL_law_973 rfl ?_
      have y81 : σ69 10 10 = τ 10 10 := ((hGσ69 10 10 (show ¬ ((10 = 89 ∧ 93 ≤ 10 ∧ 10 < 97)) from by omega))).trans (hGσ62 10 10 (show ¬ ((29 ≤ 10 ∧ 10 < 31)) from by omega))
      have y82 : σ69 88 12 = τ 88 12 := ((hGσ69 88 12 (show ¬ ((88 = 89 ∧ 93 ≤ 12 ∧ 12 < 97)) from by omega))).trans (hGσ62 88 12 (show ¬ ((29 ≤ 88 ∧ 88 < 31)) from by omega))
      have f83 : (0 : Int) ≤ τ 88 12 ∧ τ 88 12 ≤ 400 := hIτ 88 12
      have y84 : σ69 0 13 = τ 0 13 := ((hGσ69 0 13 (show ¬ ((0 = 89 ∧ 93 ≤ 13 ∧ 13 < 97)) from by omega))).trans (hGσ62 0 13 (show ¬ ((29 ≤ 0 ∧ 0 < 31)) from by omega))
      have f85 : (-2147483648 : Int) ≤ τ 0 13 ∧ τ 0 13 ≤ 2147483647 := hIτ 0 13
      have y86 : σ69 88 17 = τ 88 17 := ((hGσ69 88 17 (show ¬ ((88 = 89 ∧ 93 ≤ 17 ∧ 17 < 97)) from by omega))).trans (hGσ62 88 17 (show ¬ ((29 ≤ 88 ∧ 88 < 31)) from by omega))
      have f87 : (0 : Int) ≤ τ 88 17 ∧ τ 88 17 ≤ 5 := hIτ 88 17
      have y88 : σ69 31 6 = τ 31 6 := ((hGσ69 31 6 (show ¬ ((31 = 89 ∧ 93 ≤ 6 ∧ 6 < 97)) from by omega))).trans (hGσ62 31 6 (show ¬ ((29 ≤ 31 ∧ 31 < 31)) from by omega))
      have f89 : (0 : Int) ≤ τ 31 6 ∧ τ 31 6 ≤ 1 := hIτ 31 6
      have y90 : σ69 39 6 = τ 39 6 := ((hGσ69 39 6 (show ¬ ((39 = 89 ∧ 93 ≤ 6 ∧ 6 < 97)) from by omega))).trans (hGσ62 39 6 (show ¬ ((29 ≤ 39 ∧ 39 < 31)) from by omega))
      have f91 : (0 : Int) ≤ τ 39 6 ∧ τ 39 6 ≤ 1 := hIτ 39 6
      have y92 : σ69 90 0 = τ 90 0 := ((hGσ69 90 0 (show ¬ ((90 = 89 ∧ 93 ≤ 0 ∧ 0 < 97)) from by omega))).trans (hGσ62 90 0 (show ¬ ((29 ≤ 90 ∧ 90 < 31)) from by omega))
      have f93 : (0 : Int) ≤ τ 90 0 ∧ τ 90 0 ≤ 1 := hIτ 90 0
      have y94 : σ69 90 1 = τ 90 1 := ((hGσ69 90 1 (show ¬ ((90 = 89 ∧ 93 ≤ 1 ∧ 1 < 97)) from by omega))).trans (hGσ62 90 1 (show ¬ ((29 ≤ 90 ∧ 90 < 31)) from by omega))
      have f95 : (0 : Int) ≤ τ 90 1 ∧ τ 90 1 ≤ 1 := hIτ 90 1
      obtain ⟨t0, t1, t2, t3, t4, t5, t6, t7, t8, t9, t10, t11, t12, t13, t14, t15, t16, t17⟩ := tτ
      have y96 : σ69 29 0 = σ62 29 0 := (hGσ69 29 0 (show ¬ ((29 = 89 ∧ 93 ≤ 0 ∧ 0 < 97)) from by omega))
      have f97 : (0 : Int) ≤ σ62 29 0 ∧ σ62 29 0 ≤ 999 := hIσ62 29 0
      have y98 : σ69 30 0 = σ62 30 0 := (hGσ69 30 0 (show ¬ ((30 = 89 ∧ 93 ≤ 0 ∧ 0 < 97)) from by omega))
      have f99 : (-2147483648 : Int) ≤ σ62 30 0 ∧ σ62 30 0 ≤ 2147483647 := hIσ62 30 0
      have y100 : σ69 29 1 = σ62 29 1 := (hGσ69 29 1 (show ¬ ((29 = 89 ∧ 93 ≤ 1 ∧ 1 < 97)) from by omega))
      have f101 : (0 : Int) ≤ σ62 29 1 ∧ σ62 29 1 ≤ 999 := hIσ62 29 1
      have y102 : σ69 30 1 = σ62 30 1 := (hGσ69 30 1 (show ¬ ((30 = 89 ∧ 93 ≤ 1 ∧ 1 < 97)) from by omega))
      have f103 : (-2147483648 : Int) ≤ σ62 30 1 ∧ σ62 30 1 ≤ 2147483647 := hIσ62 30 1
      have y104 : σ69 37 0 = τ 37 0 := ((hGσ69 37 0 (show ¬ ((37 = 89 ∧ 93 ≤ 0 ∧ 0 < 97)) from by omega))).trans (hGσ62 37 0 (show ¬ ((29 ≤ 37 ∧ 37 < 31)) from by omega))
      have f105 : (0 : Int) ≤ τ 37 0 ∧ τ 37 0 ≤ 999 := hIτ 37 0
      have y106 : σ69 38 0 = τ 38 0 := ((hGσ69 38 0 (show ¬ ((38 = 89 ∧ 93 ≤ 0 ∧ 0 < 97)) from by omega))).trans (hGσ62 38 0 (show ¬ ((29 ≤ 38 ∧ 38 < 31)) from by omega))
      have f107 : (-2147483648 : Int) ≤ τ 38 0 ∧ τ 38 0 ≤ 2147483647 := hIτ 38 0
      have y108 : σ69 37 1 = τ 37 1 := ((hGσ69 37 1 (show ¬ ((37 = 89 ∧ 93 ≤ 1 ∧ 1 < 97)) from by omega))).trans (hGσ62 37 1 (show ¬ ((29 ≤ 37 ∧ 37 < 31)) from by omega))
      have f109 : (0 : Int) ≤ τ 37 1 ∧ τ 37 1 ≤ 999 := hIτ 37 1
      have y110 : σ69 38 1 = τ 38 1 := ((hGσ69 38 1 (show ¬ ((38 = 89 ∧ 93 ≤ 1 ∧ 1 < 97)) from by omega))).trans (hGσ62 38 1 (show ¬ ((29 ≤ 38 ∧ 38 < 31)) from by omega))
      have f111 : (-2147483648 : Int) ≤ τ 38 1 ∧ τ 38 1 ≤ 2147483647 := hIτ 38 1
      have y112 : σ69 45 0 = τ 45 0 := ((hGσ69 45 0 (show ¬ ((45 = 89 ∧ 93 ≤ 0 ∧ 0 < 97)) from by omega))).trans (hGσ62 45 0 (show ¬ ((29 ≤ 45 ∧ 45 < 31)) from by omega))
      have f113 : (0 : Int) ≤ τ 45 0 ∧ τ 45 0 ≤ 999 := hIτ 45 0
      have y114 : σ69 46 0 = τ 46 0 := ((hGσ69 46 0 (show ¬ ((46 = 89 ∧ 93 ≤ 0 ∧ 0 < 97)) from by omega))).trans (hGσ62 46 0 (show ¬ ((29 ≤ 46 ∧ 46 < 31)) from by omega))
      have f115 : (-2147483648 : Int) ≤ τ 46 0 ∧ τ 46 0 ≤ 2147483647 := hIτ 46 0
      have y116 : σ69 45 1 = τ 45 1 := ((hGσ69 45 1 (show ¬ ((45 = 89 ∧ 93 ≤ 1 ∧ 1 < 97)) from by omega))).trans (hGσ62 45 1 (show ¬ ((29 ≤ 45 ∧ 45 < 31)) from by omega))
      have f117 : (0 : Int) ≤ τ 45 1 ∧ τ 45 1 ≤ 999 := hIτ 45 1
      have y118 : σ69 46 1 = τ 46 1 := ((hGσ69 46 1 (show ¬ ((46 = 89 ∧ 93 ≤ 1 ∧ 1 < 97)) from by omega))).trans (hGσ62 46 1 (show ¬ ((29 ≤ 46 ∧ 46 < 31)) from by omega))
      have f119 : (-2147483648 : Int) ≤ τ 46 1 ∧ τ 46 1 ≤ 2147483647 := hIτ 46 1
      have u193 : σ69 89 193 = τ 89 193 := ((hGσ69 89 193 (show ¬ ((89 = 89 ∧ 93 ≤ 193 ∧ 193 < 97)) from by omega))).trans (hGσ62 89 193 (show ¬ ((29 ≤ 89 ∧ 89 < 31)) from by omega))
      have u194 : σ69 89 194 = τ 89 194 := ((hGσ69 89 194 (show ¬ ((89 = 89 ∧ 93 ≤ 194 ∧ 194 < 97)) from by omega))).trans (hGσ62 89 194 (show ¬ ((29 ≤ 89 ∧ 89 < 31)) from by omega))
      have u195 : σ69 89 195 = τ 89 195 := ((hGσ69 89 195 (show ¬ ((89 = 89 ∧ 93 ≤ 195 ∧ 195 < 97)) from by omega))).trans (hGσ62 89 195 (show ¬ ((29 ≤ 89 ∧ 89 < 31)) from by omega))
      have u196 : σ69 89 196 = τ 89 196 := ((hGσ69 89 196 (show ¬ ((89 = 89 ∧ 93 ≤ 196 ∧ 196 < 97)) from by omega))).trans (hGσ62 89 196 (show ¬ ((29 ≤ 89 ∧ 89 < 31)) from by omega))
      have u293 : σ69 89 293 = τ 89 293 := ((hGσ69 89 293 (show ¬ ((89 = 89 ∧ 93 ≤ 293 ∧ 293 < 97)) from by omega))).trans (hGσ62 89 293 (show ¬ ((29 ≤ 89 ∧ 89 < 31)) from by omega))
      have u294 : σ69 89 294 = τ 89 294 := ((hGσ69 89 294 (show ¬ ((89 = 89 ∧ 93 ≤ 294 ∧ 294 < 97)) from by omega))).trans (hGσ62 89 294 (show ¬ ((29 ≤ 89 ∧ 89 < 31)) from by omega))
      have u295 : σ69 89 295 = τ 89 295 := ((hGσ69 89 295 (show ¬ ((89 = 89 ∧ 93 ≤ 295 ∧ 295 < 97)) from by omega))).trans (hGσ62 89 295 (show ¬ ((29 ≤ 89 ∧ 89 < 31)) from by omega))
      have u296 : σ69 89 296 = τ 89 296 := ((hGσ69 89 296 (show ¬ ((89 = 89 ∧ 93 ≤ 296 ∧ 296 < 97)) from by omega))).trans (hGσ62 89 296 (show ¬ ((29 ≤ 89 ∧ 89 < 31)) from by omega))
      exact K σ69 hIσ69 ⟨mσ69, by omega, sσ69, bσ69, by omega, by omega, by omega, ⟨by clear t14 t15 t16 t17; omega, by clear t14 t15 t16 t17; omega, by clear t14 t15 t16 t17; omega, by clear t14 t15 t16 t17; omega, by clear t14 t15 t16 t17 q63_0 q70_1; omega, by clear t14 t15 t16 t17 q63_0 q70_1; omega, by clear t14 t15 t16 t17 q63_0 q70_1; omega, by clear t14 t15 t16 t17 q63_0 q70_1; omega, by clear t14 t15 t16 t17 q63_0 q70_1; omega, by clear t14 t15 t16 t17 q63_0 q70_1; omega, by clear t14 t15 t16 t17 q63_0 q70_1; omega, by clear t14 t15 t16 t17 q63_0 q70_1; omega, by clear t2 t3 t6 t7 t10 t11 t13 t15 t17; omega, by clear t0 t1 t4 t5 t8 t9 t12 t14 t16; omega, by clear t2 t3 t6 t7 t10 t11 t13 t15 t17 q63_0 q70_1; omega, by clear t0 t1 t4 t5 t8 t9 t12 t14 t16 q63_0 q70_1; omega, by clear t2 t3 t6 t7 t10 t11 t13 t15 t17 q63_0 q70_1; omega, by clear t0 t1 t4 t5 t8 t9 t12 t14 t16 q63_0 q70_1; omega⟩, stσ69⟩
    · refine j_iconst (pc := 964) dL_law_964 ?_
      refine j_goto (pc := 965) (tgt := 969) dL_law_965 rfl ?_
      refine j_callV (pc := 969) (As := [vI v1, vI 1]) (st := []) (c_X12_tried hM v1 ⟨by omega, by omega⟩ 1 ⟨by omega, by omega⟩ σ62 hIσ62 mσ62) mv_L_127 rfl rfl rfl (a_88 hM) dL_law_969 ⟨Nat.le_of_ble_eq_true rfl, Nat.le_of_ble_eq_true rfl⟩ ⟨Nat.le_of_ble_eq_true rfl, Nat.le_of_ble_eq_true rfl⟩ rfl (Nat.le_of_ble_eq_true rfl) rfl (fun z120 σ121 hz120 => ?_)
      obtain ⟨r123, rfl, hr123, hIσ121, hGσ121, q122_0, q122_1⟩ := hz120
      replace q122_0 : mI σ121 := q122_0
      replace q122_1 : (r123 = -1 ∧ ¬ (v1 = 0 ∨ v1 = 1) ∧ σ121 89 93 = σ62 89 93 ∧ σ121 89 94 = σ62 89 94 ∧ σ121 89 95 = σ62 89 95 ∧ σ121 89 96 = σ62 89 96) ∨ (r123 = -3 ∧ (v1 = 0 ∨ v1 = 1) ∧ 999 ≤ σ62 89 93 + σ62 89 95 ∧ σ121 89 93 = σ62 89 93 ∧ σ121 89 94 = σ62 89 94 ∧ σ121 89 95 = σ62 89 95 ∧ σ121 89 96 = σ62 89 96) ∨ (v1 = 0 ∧ σ62 89 93 + σ62 89 95 < 999 ∧ r123 = σ62 89 93 + 1 ∧ σ121 89 93 = σ62 89 93 + 1 ∧ (2147483647 ≤ σ62 89 94 ∨ σ121 89 94 = σ62 89 94 + (1 : Int)) ∧ σ121 89 95 = σ62 89 95 ∧ σ121 89 96 = σ62 89 96) ∨ (v1 = 1 ∧ σ62 89 93 + σ62 89 95 < 999 ∧ r123 = σ62 89 95 + 1 ∧ σ121 89 95 = σ62 89 95 + 1 ∧ (2147483647 ≤ σ62 89 96 ∨ σ121 89 96 = σ62 89 96 + (1 : Int)) ∧ σ121 89 93 = σ62 89 93 ∧ σ121 89 94 = σ62 89 94) := q122_1
      have y124 : σ62 89 93 = τ 89 93 := (hGσ62 89 93 (show ¬ ((29 ≤ 89 ∧ 89 < 31)) from by omega))
      have f125 : (0 : Int) ≤ τ 89 93 ∧ τ 89 93 ≤ 999 := hIτ 89 93
      have y126 : σ62 89 94 = τ 89 94 := (hGσ62 89 94 (show ¬ ((29 ≤ 89 ∧ 89 < 31)) from by omega))
      have f127 : (-2147483648 : Int) ≤ τ 89 94 ∧ τ 89 94 ≤ 2147483647 := hIτ 89 94
      have y128 : σ62 89 95 = τ 89 95 := (hGσ62 89 95 (show ¬ ((29 ≤ 89 ∧ 89 < 31)) from by omega))
      have f129 : (0 : Int) ≤ τ 89 95 ∧ τ 89 95 ≤ 999 := hIτ 89 95
      have y130 : σ62 89 96 = τ 89 96 := (hGσ62 89 96 (show ¬ ((29 ≤ 89 ∧ 89 < 31)) from by omega))
      have f131 : (-2147483648 : Int) ≤ τ 89 96 ∧ τ 89 96 ≤ 2147483647 := hIτ 89 96
      refine j_st (st' := [vI r123]) rfl ?_
      have y132 : σ121 10 10 = τ 10 10 := ((hGσ121 10 10 (show ¬ ((10 = 89 ∧ 93 ≤ 10 ∧ 10 < 97)) from by omega))).trans (hGσ62 10 10 (show ¬ ((29 ≤ 10 ∧ 10 < 31)) from by omega))
      have bσ121 : BY σ121 := BY_kept bσ62 (fun j => hGσ121 11 j (show ¬ ((11 = 89 ∧ 93 ≤ j ∧ j < 97)) from by omega)) (fun j => hGσ121 98 j (show ¬ ((98 = 89 ∧ 93 ≤ j ∧ j < 97)) from by omega)) (by omega)
      have mσ121 : mI σ121 := q122_0
      have sσ121 : SR σ121 := SR_kept sσ62 (fun c j h => hGσ121 c j (show ¬ ((c = 89 ∧ 93 ≤ j ∧ j < 97)) from by omega)) (fun j => hGσ121 104 j (show ¬ ((104 = 89 ∧ 93 ≤ j ∧ j < 97)) from by omega)) (fun j => hGσ121 105 j (show ¬ ((105 = 89 ∧ 93 ≤ j ∧ j < 97)) from by omega))
      have stσ121 : ST σ121 := ST_F stσ62 (fun c j h => hGσ121 c j (show ¬ ((c = 89 ∧ 93 ≤ j ∧ j < 97)) from by unfold STR at h; omega))
      refine j_pop (pc := 972) dL_law_972 rfl ?_
      refine j_goto (pc := 973) (tgt := 1352) dL_law_973 rfl ?_
      have y133 : σ121 10 10 = τ 10 10 := ((hGσ121 10 10 (show ¬ ((10 = 89 ∧ 93 ≤ 10 ∧ 10 < 97)) from by omega))).trans (hGσ62 10 10 (show ¬ ((29 ≤ 10 ∧ 10 < 31)) from by omega))
      have y134 : σ121 88 12 = τ 88 12 := ((hGσ121 88 12 (show ¬ ((88 = 89 ∧ 93 ≤ 12 ∧ 12 < 97)) from by omega))).trans (hGσ62 88 12 (show ¬ ((29 ≤ 88 ∧ 88 < 31)) from by omega))
      have f135 : (0 : Int) ≤ τ 88 12 ∧ τ 88 12 ≤ 400 := hIτ 88 12
      have y136 : σ121 0 13 = τ 0 13 := ((hGσ121 0 13 (show ¬ ((0 = 89 ∧ 93 ≤ 13 ∧ 13 < 97)) from by omega))).trans (hGσ62 0 13 (show ¬ ((29 ≤ 0 ∧ 0 < 31)) from by omega))
      have f137 : (-2147483648 : Int) ≤ τ 0 13 ∧ τ 0 13 ≤ 2147483647 := hIτ 0 13
      have y138 : σ121 88 17 = τ 88 17 := ((hGσ121 88 17 (show ¬ ((88 = 89 ∧ 93 ≤ 17 ∧ 17 < 97)) from by omega))).trans (hGσ62 88 17 (show ¬ ((29 ≤ 88 ∧ 88 < 31)) from by omega))
      have f139 : (0 : Int) ≤ τ 88 17 ∧ τ 88 17 ≤ 5 := hIτ 88 17
      have y140 : σ121 31 6 = τ 31 6 := ((hGσ121 31 6 (show ¬ ((31 = 89 ∧ 93 ≤ 6 ∧ 6 < 97)) from by omega))).trans (hGσ62 31 6 (show ¬ ((29 ≤ 31 ∧ 31 < 31)) from by omega))
      have f141 : (0 : Int) ≤ τ 31 6 ∧ τ 31 6 ≤ 1 := hIτ 31 6
      have y142 : σ121 39 6 = τ 39 6 := ((hGσ121 39 6 (show ¬ ((39 = 89 ∧ 93 ≤ 6 ∧ 6 < 97)) from by omega))).trans (hGσ62 39 6 (show ¬ ((29 ≤ 39 ∧ 39 < 31)) from by omega))
      have f143 : (0 : Int) ≤ τ 39 6 ∧ τ 39 6 ≤ 1 := hIτ 39 6
      have y144 : σ121 90 0 = τ 90 0 := ((hGσ121 90 0 (show ¬ ((90 = 89 ∧ 93 ≤ 0 ∧ 0 < 97)) from by omega))).trans (hGσ62 90 0 (show ¬ ((29 ≤ 90 ∧ 90 < 31)) from by omega))
      have f145 : (0 : Int) ≤ τ 90 0 ∧ τ 90 0 ≤ 1 := hIτ 90 0
      have y146 : σ121 90 1 = τ 90 1 := ((hGσ121 90 1 (show ¬ ((90 = 89 ∧ 93 ≤ 1 ∧ 1 < 97)) from by omega))).trans (hGσ62 90 1 (show ¬ ((29 ≤ 90 ∧ 90 < 31)) from by omega))
      have f147 : (0 : Int) ≤ τ 90 1 ∧ τ 90 1 ≤ 1 := hIτ 90 1
      obtain ⟨t0, t1, t2, t3, t4, t5, t6, t7, t8, t9, t10, t11, t12, t13, t14, t15, t16, t17⟩ := tτ
      have y148 : σ121 29 0 = σ62 29 0 := (hGσ121 29 0 (show ¬ ((29 = 89 ∧ 93 ≤ 0 ∧ 0 < 97)) from by omega))
      have f149 : (0 : Int) ≤ σ62 29 0 ∧ σ62 29 0 ≤ 999 := hIσ62 29 0
      have y150 : σ121 30 0 = σ62 30 0 := (hGσ121 30 0 (show ¬ ((30 = 89 ∧ 93 ≤ 0 ∧ 0 < 97)) from by omega))
      have f151 : (-2147483648 : Int) ≤ σ62 30 0 ∧ σ62 30 0 ≤ 2147483647 := hIσ62 30 0
      have y152 : σ121 29 1 = σ62 29 1 := (hGσ121 29 1 (show ¬ ((29 = 89 ∧ 93 ≤ 1 ∧ 1 < 97)) from by omega))
      have f153 : (0 : Int) ≤ σ62 29 1 ∧ σ62 29 1 ≤ 999 := hIσ62 29 1
      have y154 : σ121 30 1 = σ62 30 1 := (hGσ121 30 1 (show ¬ ((30 = 89 ∧ 93 ≤ 1 ∧ 1 < 97)) from by omega))
      have f155 : (-2147483648 : Int) ≤ σ62 30 1 ∧ σ62 30 1 ≤ 2147483647 := hIσ62 30 1
      have y156 : σ121 37 0 = τ 37 0 := ((hGσ121 37 0 (show ¬ ((37 = 89 ∧ 93 ≤ 0 ∧ 0 < 97)) from by omega))).trans (hGσ62 37 0 (show ¬ ((29 ≤ 37 ∧ 37 < 31)) from by omega))
      have f157 : (0 : Int) ≤ τ 37 0 ∧ τ 37 0 ≤ 999 := hIτ 37 0
      have y158 : σ121 38 0 = τ 38 0 := ((hGσ121 38 0 (show ¬ ((38 = 89 ∧ 93 ≤ 0 ∧ 0 < 97)) from by omega))).trans (hGσ62 38 0 (show ¬ ((29 ≤ 38 ∧ 38 < 31)) from by omega))
      have f159 : (-2147483648 : Int) ≤ τ 38 0 ∧ τ 38 0 ≤ 2147483647 := hIτ 38 0
      have y160 : σ121 37 1 = τ 37 1 := ((hGσ121 37 1 (show ¬ ((37 = 89 ∧ 93 ≤ 1 ∧ 1 < 97)) from by omega))).trans (hGσ62 37 1 (show ¬ ((29 ≤ 37 ∧ 37 < 31)) from by omega))
      have f161 : (0 : Int) ≤ τ 37 1 ∧ τ 37 1 ≤ 999 := hIτ 37 1
      have y162 : σ121 38 1 = τ 38 1 := ((hGσ121 38 1 (show ¬ ((38 = 89 ∧ 93 ≤ 1 ∧ 1 < 97)) from by omega))).trans (hGσ62 38 1 (show ¬ ((29 ≤ 38 ∧ 38 < 31)) from by omega))
      have f163 : (-2147483648 : Int) ≤ τ 38 1 ∧ τ 38 1 ≤ 2147483647 := hIτ 38 1
      have y164 : σ121 45 0 = τ 45 0 := ((hGσ121 45 0 (show ¬ ((45 = 89 ∧ 93 ≤ 0 ∧ 0 < 97)) from by omega))).trans (hGσ62 45 0 (show ¬ ((29 ≤ 45 ∧ 45 < 31)) from by omega))
      have f165 : (0 : Int) ≤ τ 45 0 ∧ τ 45 0 ≤ 999 := hIτ 45 0
      have y166 : σ121 46 0 = τ 46 0 := ((hGσ121 46 0 (show ¬ ((46 = 89 ∧ 93 ≤ 0 ∧ 0 < 97)) from by omega))).trans (hGσ62 46 0 (show ¬ ((29 ≤ 46 ∧ 46 < 31)) from by omega))
      have f167 : (-2147483648 : Int) ≤ τ 46 0 ∧ τ 46 0 ≤ 2147483647 := hIτ 46 0
      have y168 : σ121 45 1 = τ 45 1 := ((hGσ121 45 1 (show ¬ ((45 = 89 ∧ 93 ≤ 1 ∧ 1 < 97)) from by omega))).trans (hGσ62 45 1 (show ¬ ((29 ≤ 45 ∧ 45 < 31)) from by omega))
      have f169 : (0 : Int) ≤ τ 45 1 ∧ τ 45 1 ≤ 999 := hIτ 45 1
      have y170 : σ121 46 1 = τ 46 1 := ((hGσ121 46 1 (show ¬ ((46 = 89 ∧ 93 ≤ 1 ∧ 1 < 97)) from by omega))).trans (hGσ62 46 1 (show ¬ ((29 ≤ 46 ∧ 46 < 31)) from by omega))
      have f171 : (-2147483648 : Int) ≤ τ 46 1 ∧ τ 46 1 ≤ 2147483647 := hIτ 46 1
      have u193 : σ121 89 193 = τ 89 193 := ((hGσ121 89 193 (show ¬ ((89 = 89 ∧ 93 ≤ 193 ∧ 193 < 97)) from by omega))).trans (hGσ62 89 193 (show ¬ ((29 ≤ 89 ∧ 89 < 31)) from by omega))
      have u194 : σ121 89 194 = τ 89 194 := ((hGσ121 89 194 (show ¬ ((89 = 89 ∧ 93 ≤ 194 ∧ 194 < 97)) from by omega))).trans (hGσ62 89 194 (show ¬ ((29 ≤ 89 ∧ 89 < 31)) from by omega))
      have u195 : σ121 89 195 = τ 89 195 := ((hGσ121 89 195 (show ¬ ((89 = 89 ∧ 93 ≤ 195 ∧ 195 < 97)) from by omega))).trans (hGσ62 89 195 (show ¬ ((29 ≤ 89 ∧ 89 < 31)) from by omega))
      have u196 : σ121 89 196 = τ 89 196 := ((hGσ121 89 196 (show ¬ ((89 = 89 ∧ 93 ≤ 196 ∧ 196 < 97)) from by omega))).trans (hGσ62 89 196 (show ¬ ((29 ≤ 89 ∧ 89 < 31)) from by omega))
      have u293 : σ121 89 293 = τ 89 293 := ((hGσ121 89 293 (show ¬ ((89 = 89 ∧ 93 ≤ 293 ∧ 293 < 97)) from by omega))).trans (hGσ62 89 293 (show ¬ ((29 ≤ 89 ∧ 89 < 31)) from by omega))
      have u294 : σ121 89 294 = τ 89 294 := ((hGσ121 89 294 (show ¬ ((89 = 89 ∧ 93 ≤ 294 ∧ 294 < 97)) from by omega))).trans (hGσ62 89 294 (show ¬ ((29 ≤ 89 ∧ 89 < 31)) from by omega))
      have u295 : σ121 89 295 = τ 89 295 := ((hGσ121 89 295 (show ¬ ((89 = 89 ∧ 93 ≤ 295 ∧ 295 < 97)) from by omega))).trans (hGσ62 89 295 (show ¬ ((29 ≤ 89 ∧ 89 < 31)) from by omega))
      have u296 : σ121 89 296 = τ 89 296 := ((hGσ121 89 296 (show ¬ ((89 = 89 ∧ 93 ≤ 296 ∧ 296 < 97)) from by omega))).trans (hGσ62 89 296 (show ¬ ((29 ≤ 89 ∧ 89 < 31)) from by omega))
      exact K σ121 hIσ121 ⟨mσ121, by omega, sσ121, bσ121, by omega, by omega, by omega, ⟨by clear t14 t15 t16 t17; omega, by clear t14 t15 t16 t17; omega, by clear t14 t15 t16 t17; omega, by clear t14 t15 t16 t17; omega, by clear t14 t15 t16 t17 q63_0 q122_1; omega, by clear t14 t15 t16 t17 q63_0 q122_1; omega, by clear t14 t15 t16 t17 q63_0 q122_1; omega, by clear t14 t15 t16 t17 q63_0 q122_1; omega, by clear t14 t15 t16 t17 q63_0 q122_1; omega, by clear t14 t15 t16 t17 q63_0 q122_1; omega, by clear t14 t15 t16 t17 q63_0 q122_1; omega, by clear t14 t15 t16 t17 q63_0 q122_1; omega, by clear t2 t3 t6 t7 t10 t11 t13 t15 t17; omega, by clear t0 t1 t4 t5 t8 t9 t12 t14 t16; omega, by clear t2 t3 t6 t7 t10 t11 t13 t15 t17 q63_0 q122_1; omega, by clear t0 t1 t4 t5 t8 t9 t12 t14 t16 q63_0 q122_1; omega, by clear t2 t3 t6 t7 t10 t11 t13 t15 t17 q63_0 q122_1; omega, by clear t0 t1 t4 t5 t8 t9 t12 t14 t16 q63_0 q122_1; omega⟩, stσ121⟩
set_option maxHeartbeats 4000000 in
set_option maxRecDepth 100000 in
theorem w_case_26 {G : tw_G} (hX : tw_isX G) (hM : tw_isM G) {E : List Frame → Array Value → State → State → Prop} (hN : (gN G : Int) ≤ 2560) (i : Int) (hi : 0 ≤ i ∧ i + 5 ≤ (gN G : Int)) (τ : tw_M) (hIτ : tw_I τ) (hL : tw_LI τ) (K : ∀ τ' : tw_M, tw_I τ' → tw_LI τ' → tw_J G tw_ML E 1352 [(0, vR 300), (1, vR 0), (2, vR 88), (3, vI i)] [] τ') : tw_J G tw_ML E 976 [(0, vR 300), (1, vR 0), (2, vR 88), (3, vI i)] [] τ := by
  obtain ⟨mτ, zτ, sτ, bτ, fτ, kτ0, kτ1, tτ, stτ⟩ := hL
  have g9 : (0 : Int) ≤ τ 10 10 ∧ τ 10 10 ≤ 400 := hIτ 10 10
  obtain ⟨v1, ev1⟩ : ∃ v : Int, v = (gxs G (i + 1).toNat).toInt := ⟨_, rfl⟩
  have hv1 : (-2147483648 : Int) ≤ v1 ∧ v1 ≤ 2147483647 := by rw [ev1]; exact i32_in _
  obtain ⟨v2, ev2⟩ : ∃ v : Int, v = (gxs G (i + 2).toNat).toInt := ⟨_, rfl⟩
  have hv2 : (-2147483648 : Int) ≤ v2 ∧ v2 ≤ 2147483647 := by rw [ev2]; exact i32_in _
  obtain ⟨v3, ev3⟩ : ∃ v : Int, v = (gxs G (i + 3).toNat).toInt := ⟨_, rfl⟩
  have hv3 : (-2147483648 : Int) ≤ v3 ∧ v3 ≤ 2147483647 := by rw [ev3]; exact i32_in _
  obtain ⟨v4, ev4⟩ : ∃ v : Int, v = (gxs G (i + 4).toNat).toInt := ⟨_, rfl⟩
  have hv4 : (-2147483648 : Int) ≤ v4 ∧ v4 ≤ 2147483647 := by rw [ev4]; exact i32_in _
  refine j_aload_n (pc := 976) dL_law_976 rfl rfl ?_
  refine j_aload_n (pc := 977) dL_law_977 rfl rfl ?_
  refine j_iload_n (pc := 978) dL_law_978 rfl rfl ?_
  refine j_iconst (pc := 979) dL_law_979 ?_
  refine j_iadd (pc := 980) dL_law_980 ?_
  refine j_scrAt (pc := 981) dL_law_981 (by omega) (by omega) (by omega) ?_
  refine j_topV (show _ = v1 from ev1.symm) ?_
  refine j_aload_n (pc := 982) dL_law_982 rfl rfl ?_
  refine j_iload_n (pc := 983) dL_law_983 rfl rfl ?_
  refine j_iconst (pc := 984) dL_law_984 ?_
  refine j_iadd (pc := 985) dL_law_985 ?_
  refine j_scrAt (pc := 986) dL_law_986 (by omega) (by omega) (by omega) ?_
  refine j_topV (show _ = v2 from ev2.symm) ?_
  refine j_callV (pc := 987) (As := [vI v1, vI v2]) (st := []) (c_X11_eye hX v1 ⟨by omega, by omega⟩ v2 ⟨by omega, by omega⟩ τ hIτ) mv_L_128 rfl rfl rfl (a_0 hX) dL_law_987 ⟨Nat.le_of_ble_eq_true rfl, Nat.le_of_ble_eq_true rfl⟩ ⟨Nat.le_of_ble_eq_true rfl, Nat.le_of_ble_eq_true rfl⟩ rfl (Nat.le_of_ble_eq_true rfl) rfl (fun z1 σ2 hz1 => ?_)
  obtain ⟨r4, rfl, hr4, hIσ2, hGσ2, q3_0⟩ := hz1
  replace q3_0 : (r4 = -1 ∧ ¬ ((v1 = 0 ∨ v1 = 1) ∧ (v2 = 0 ∨ v2 = 1))) ∨ (r4 = -4 ∧ ((v1 = 0 ∧ τ 29 0 = 0) ∨ (v1 = 1 ∧ τ 29 1 = 0)) ∧ (v2 = 0 ∨ v2 = 1)) ∨ (v1 = 0 ∧ (v2 = 0 ∨ v2 = 1) ∧ ¬ τ 29 0 = 0 ∧ r4 = EYX (τ 30 0) (τ 29 0) v2) ∨ (v1 = 1 ∧ (v2 = 0 ∨ v2 = 1) ∧ ¬ τ 29 1 = 0 ∧ r4 = EYX (τ 30 1) (τ 29 1) v2) := q3_0
  refine j_st (st' := [vI r4]) rfl ?_
  have y5 : σ2 10 10 = τ 10 10 := (hGσ2 10 10 (show ¬ ((10 = 58 ∧ (10 = 2 ∨ 10 = 3))) from by omega))
  have f6 : (0 : Int) ≤ τ 10 10 ∧ τ 10 10 ≤ 400 := hIτ 10 10
  have bσ2 : BY σ2 := BY_kept bτ (fun j => hGσ2 11 j (show ¬ ((11 = 58 ∧ (j = 2 ∨ j = 3))) from by omega)) (fun j => hGσ2 98 j (show ¬ ((98 = 58 ∧ (j = 2 ∨ j = 3))) from by omega)) (by omega)
  have mσ2 : mI σ2 := mI_kept mτ (fun j hj => hGσ2 89 j (show ¬ ((89 = 58 ∧ (j = 2 ∨ j = 3))) from by omega)) (fun j => hGσ2 90 j (show ¬ ((90 = 58 ∧ (j = 2 ∨ j = 3))) from by omega)) (hGσ2 91 0 (show ¬ ((91 = 58 ∧ (0 = 2 ∨ 0 = 3))) from by omega)) hIτ
  have sσ2 : SR σ2 := SR_kept sτ (fun c j h => hGσ2 c j (show ¬ ((c = 58 ∧ (j = 2 ∨ j = 3))) from by omega)) (fun j => hGσ2 104 j (show ¬ ((104 = 58 ∧ (j = 2 ∨ j = 3))) from by omega)) (fun j => hGσ2 105 j (show ¬ ((105 = 58 ∧ (j = 2 ∨ j = 3))) from by omega))
  have tσ2 : TT σ2 := TT_kept tτ (fun c j h => hGσ2 c j (show ¬ ((c = 58 ∧ (j = 2 ∨ j = 3))) from by omega)) (fun j h => hGσ2 89 j (show ¬ ((89 = 58 ∧ (j = 2 ∨ j = 3))) from by omega))
  have stσ2 : ST σ2 := ST_F stτ (fun c j h => hGσ2 c j (show ¬ ((c = 58 ∧ (j = 2 ∨ j = 3))) from by unfold STR at h; omega))
  refine j_pop (pc := 990) dL_law_990 rfl ?_
  refine j_aload_n (pc := 991) dL_law_991 rfl rfl ?_
  refine j_aload_n (pc := 992) dL_law_992 rfl rfl ?_
  refine j_iload_n (pc := 993) dL_law_993 rfl rfl ?_
  refine j_iconst (pc := 994) dL_law_994 ?_
  refine j_iadd (pc := 995) dL_law_995 ?_
  refine j_scrAt (pc := 996) dL_law_996 (by omega) (by omega) (by omega) ?_
  refine j_topV (show _ = v1 from ev1.symm) ?_
  refine j_aload_n (pc := 997) dL_law_997 rfl rfl ?_
  refine j_iload_n (pc := 998) dL_law_998 rfl rfl ?_
  refine j_iconst (pc := 999) dL_law_999 ?_
  refine j_iadd (pc := 1000) dL_law_1000 ?_
  refine j_scrAt (pc := 1001) dL_law_1001 (by omega) (by omega) (by omega) ?_
  refine j_topV (show _ = v2 from ev2.symm) ?_
  refine j_callV (pc := 1002) (As := [vI v1, vI v2]) (st := []) (c_X12_eye hM v1 ⟨by omega, by omega⟩ v2 ⟨by omega, by omega⟩ σ2 hIσ2) mv_L_131 rfl rfl rfl (a_88 hM) dL_law_1002 ⟨Nat.le_of_ble_eq_true rfl, Nat.le_of_ble_eq_true rfl⟩ ⟨Nat.le_of_ble_eq_true rfl, Nat.le_of_ble_eq_true rfl⟩ rfl (Nat.le_of_ble_eq_true rfl) rfl (fun z7 σ8 hz7 => ?_)
  obtain ⟨r10, rfl, hr10, rfl, q9_0⟩ := hz7
  replace q9_0 : (r10 = -1 ∧ ¬ ((v1 = 0 ∨ v1 = 1) ∧ (v2 = 0 ∨ v2 = 1))) ∨ (r10 = -4 ∧ ((v1 = 0 ∧ σ2 89 93 = 0) ∨ (v1 = 1 ∧ σ2 89 95 = 0)) ∧ (v2 = 0 ∨ v2 = 1)) ∨ (v1 = 0 ∧ (v2 = 0 ∨ v2 = 1) ∧ ¬ σ2 89 93 = 0 ∧ r10 = EYM (σ2 89 94) (σ2 89 93) v2) ∨ (v1 = 1 ∧ (v2 = 0 ∨ v2 = 1) ∧ ¬ σ2 89 95 = 0 ∧ r10 = EYM (σ2 89 96) (σ2 89 95) v2) := q9_0
  have y11 : σ2 89 93 = τ 89 93 := (hGσ2 89 93 (show ¬ ((89 = 58 ∧ (93 = 2 ∨ 93 = 3))) from by omega))
  have f12 : (0 : Int) ≤ τ 89 93 ∧ τ 89 93 ≤ 999 := hIτ 89 93
  have y13 : σ2 89 95 = τ 89 95 := (hGσ2 89 95 (show ¬ ((89 = 58 ∧ (95 = 2 ∨ 95 = 3))) from by omega))
  have f14 : (0 : Int) ≤ τ 89 95 ∧ τ 89 95 ≤ 999 := hIτ 89 95
  have y15 : σ2 89 94 = τ 89 94 := (hGσ2 89 94 (show ¬ ((89 = 58 ∧ (94 = 2 ∨ 94 = 3))) from by omega))
  have f16 : (-2147483648 : Int) ≤ τ 89 94 ∧ τ 89 94 ≤ 2147483647 := hIτ 89 94
  have y17 : σ2 89 96 = τ 89 96 := (hGσ2 89 96 (show ¬ ((89 = 58 ∧ (96 = 2 ∨ 96 = 3))) from by omega))
  have f18 : (-2147483648 : Int) ≤ τ 89 96 ∧ τ 89 96 ≤ 2147483647 := hIτ 89 96
  refine j_st (st' := [vI r10]) rfl ?_
  refine j_pop (pc := 1005) dL_law_1005 rfl ?_
  refine j_goto (pc := 1006) (tgt := 1352) dL_law_1006 rfl ?_
  have y19 : σ2 10 10 = τ 10 10 := (hGσ2 10 10 (show ¬ ((10 = 58 ∧ (10 = 2 ∨ 10 = 3))) from by omega))
  have y20 : σ2 88 12 = τ 88 12 := (hGσ2 88 12 (show ¬ ((88 = 58 ∧ (12 = 2 ∨ 12 = 3))) from by omega))
  have f21 : (0 : Int) ≤ τ 88 12 ∧ τ 88 12 ≤ 400 := hIτ 88 12
  have y22 : σ2 0 13 = τ 0 13 := (hGσ2 0 13 (show ¬ ((0 = 58 ∧ (13 = 2 ∨ 13 = 3))) from by omega))
  have f23 : (-2147483648 : Int) ≤ τ 0 13 ∧ τ 0 13 ≤ 2147483647 := hIτ 0 13
  have y24 : σ2 88 17 = τ 88 17 := (hGσ2 88 17 (show ¬ ((88 = 58 ∧ (17 = 2 ∨ 17 = 3))) from by omega))
  have f25 : (0 : Int) ≤ τ 88 17 ∧ τ 88 17 ≤ 5 := hIτ 88 17
  have y26 : σ2 31 6 = τ 31 6 := (hGσ2 31 6 (show ¬ ((31 = 58 ∧ (6 = 2 ∨ 6 = 3))) from by omega))
  have f27 : (0 : Int) ≤ τ 31 6 ∧ τ 31 6 ≤ 1 := hIτ 31 6
  have y28 : σ2 39 6 = τ 39 6 := (hGσ2 39 6 (show ¬ ((39 = 58 ∧ (6 = 2 ∨ 6 = 3))) from by omega))
  have f29 : (0 : Int) ≤ τ 39 6 ∧ τ 39 6 ≤ 1 := hIτ 39 6
  have y30 : σ2 90 0 = τ 90 0 := (hGσ2 90 0 (show ¬ ((90 = 58 ∧ (0 = 2 ∨ 0 = 3))) from by omega))
  have f31 : (0 : Int) ≤ τ 90 0 ∧ τ 90 0 ≤ 1 := hIτ 90 0
  have y32 : σ2 90 1 = τ 90 1 := (hGσ2 90 1 (show ¬ ((90 = 58 ∧ (1 = 2 ∨ 1 = 3))) from by omega))
  have f33 : (0 : Int) ≤ τ 90 1 ∧ τ 90 1 ≤ 1 := hIτ 90 1
  exact K σ2 hIσ2 ⟨mσ2, by omega, sσ2, bσ2, by omega, by omega, by omega, tσ2, stσ2⟩
set_option maxHeartbeats 4000000 in
set_option maxRecDepth 100000 in
theorem w_case_27 {G : tw_G} (hX : tw_isX G) (hM : tw_isM G) {E : List Frame → Array Value → State → State → Prop} (hN : (gN G : Int) ≤ 2560) (i : Int) (hi : 0 ≤ i ∧ i + 5 ≤ (gN G : Int)) (τ : tw_M) (hIτ : tw_I τ) (hL : tw_LI τ) (K : ∀ τ' : tw_M, tw_I τ' → tw_LI τ' → tw_J G tw_ML E 1352 [(0, vR 300), (1, vR 0), (2, vR 88), (3, vI i)] [] τ') : tw_J G tw_ML E 1009 [(0, vR 300), (1, vR 0), (2, vR 88), (3, vI i)] [] τ := by
  obtain ⟨mτ, zτ, sτ, bτ, fτ, kτ0, kτ1, tτ, stτ⟩ := hL
  have g9 : (0 : Int) ≤ τ 10 10 ∧ τ 10 10 ≤ 400 := hIτ 10 10
  obtain ⟨v1, ev1⟩ : ∃ v : Int, v = (gxs G (i + 1).toNat).toInt := ⟨_, rfl⟩
  have hv1 : (-2147483648 : Int) ≤ v1 ∧ v1 ≤ 2147483647 := by rw [ev1]; exact i32_in _
  obtain ⟨v2, ev2⟩ : ∃ v : Int, v = (gxs G (i + 2).toNat).toInt := ⟨_, rfl⟩
  have hv2 : (-2147483648 : Int) ≤ v2 ∧ v2 ≤ 2147483647 := by rw [ev2]; exact i32_in _
  obtain ⟨v3, ev3⟩ : ∃ v : Int, v = (gxs G (i + 3).toNat).toInt := ⟨_, rfl⟩
  have hv3 : (-2147483648 : Int) ≤ v3 ∧ v3 ≤ 2147483647 := by rw [ev3]; exact i32_in _
  obtain ⟨v4, ev4⟩ : ∃ v : Int, v = (gxs G (i + 4).toNat).toInt := ⟨_, rfl⟩
  have hv4 : (-2147483648 : Int) ≤ v4 ∧ v4 ≤ 2147483647 := by rw [ev4]; exact i32_in _
  refine j_aload_n (pc := 1009) dL_law_1009 rfl rfl ?_
  refine j_callV (pc := 1010) (As := []) (st := []) (c_X11_learn hX τ hIτ) mv_L_132 rfl rfl rfl (a_0 hX) dL_law_1010 ⟨Nat.le_of_ble_eq_true rfl, Nat.le_of_ble_eq_true rfl⟩ ⟨Nat.le_of_ble_eq_true rfl, Nat.le_of_ble_eq_true rfl⟩ rfl (Nat.le_of_ble_eq_true rfl) rfl (fun z1 σ2 hz1 => ?_)
  obtain ⟨r4, rfl, hr4, hIσ2, hGσ2, q3_0, q3_1, q3_2⟩ := hz1
  replace q3_0 : ((τ 29 0 = 0 ∧ σ2 23 4 = τ 23 4) ∨ (¬ τ 29 0 = 0 ∧ σ2 23 4 = lrn (τ 30 0) (τ 29 0))) := q3_0
  replace q3_1 : ((τ 29 1 = 0 ∧ σ2 23 5 = τ 23 5) ∨ (¬ τ 29 1 = 0 ∧ σ2 23 5 = lrn (τ 30 1) (τ 29 1))) := q3_1
  replace q3_2 : ((σ2 23 4 = τ 23 4 ∧ σ2 23 5 = τ 23 5 ∧ r4 = 0) ∨ (¬ σ2 23 4 = τ 23 4 ∧ σ2 23 5 = τ 23 5 ∧ r4 = 1) ∨ (σ2 23 4 = τ 23 4 ∧ ¬ σ2 23 5 = τ 23 5 ∧ r4 = 1) ∨ (¬ σ2 23 4 = τ 23 4 ∧ ¬ σ2 23 5 = τ 23 5 ∧ r4 = 2)) := q3_2
  refine j_st (st' := [vI r4]) rfl ?_
  have y5 : σ2 10 10 = τ 10 10 := (hGσ2 10 10 (show ¬ ((10 = 23 ∧ (10 = 4 ∨ 10 = 5))) from by omega))
  have f6 : (0 : Int) ≤ τ 10 10 ∧ τ 10 10 ≤ 400 := hIτ 10 10
  have bσ2 : BY σ2 := BY_kept bτ (fun j => hGσ2 11 j (show ¬ ((11 = 23 ∧ (j = 4 ∨ j = 5))) from by omega)) (fun j => hGσ2 98 j (show ¬ ((98 = 23 ∧ (j = 4 ∨ j = 5))) from by omega)) (by omega)
  have mσ2 : mI σ2 := mI_kept mτ (fun j hj => hGσ2 89 j (show ¬ ((89 = 23 ∧ (j = 4 ∨ j = 5))) from by omega)) (fun j => hGσ2 90 j (show ¬ ((90 = 23 ∧ (j = 4 ∨ j = 5))) from by omega)) (hGσ2 91 0 (show ¬ ((91 = 23 ∧ (0 = 4 ∨ 0 = 5))) from by omega)) hIτ
  have sσ2 : SR σ2 := SR_kept sτ (fun c j h => hGσ2 c j (show ¬ ((c = 23 ∧ (j = 4 ∨ j = 5))) from by omega)) (fun j => hGσ2 104 j (show ¬ ((104 = 23 ∧ (j = 4 ∨ j = 5))) from by omega)) (fun j => hGσ2 105 j (show ¬ ((105 = 23 ∧ (j = 4 ∨ j = 5))) from by omega))
  have tσ2 : TT σ2 := TT_kept tτ (fun c j h => hGσ2 c j (show ¬ ((c = 23 ∧ (j = 4 ∨ j = 5))) from by omega)) (fun j h => hGσ2 89 j (show ¬ ((89 = 23 ∧ (j = 4 ∨ j = 5))) from by omega))
  refine j_pop (pc := 1013) dL_law_1013 rfl ?_
  refine j_aload_n (pc := 1014) dL_law_1014 rfl rfl ?_
  refine j_callV (pc := 1015) (As := []) (st := []) (c_X12_learn hM σ2 hIσ2) mv_L_135 rfl rfl rfl (a_88 hM) dL_law_1015 ⟨Nat.le_of_ble_eq_true rfl, Nat.le_of_ble_eq_true rfl⟩ ⟨Nat.le_of_ble_eq_true rfl, Nat.le_of_ble_eq_true rfl⟩ rfl (Nat.le_of_ble_eq_true rfl) rfl (fun z7 σ8 hz7 => ?_)
  obtain ⟨r10, rfl, hr10, hIσ8, hGσ8, q9_0, q9_1, q9_2⟩ := hz7
  replace q9_0 : ((σ2 89 93 = 0 ∧ σ8 91 5 = σ2 91 5) ∨ (¬ σ2 89 93 = 0 ∧ σ8 91 5 = lrn (σ2 89 94) (σ2 89 93))) := q9_0
  have y11 : σ2 89 93 = τ 89 93 := (hGσ2 89 93 (show ¬ ((89 = 23 ∧ (93 = 4 ∨ 93 = 5))) from by omega))
  have f12 : (0 : Int) ≤ τ 89 93 ∧ τ 89 93 ≤ 999 := hIτ 89 93
  have y13 : σ2 91 5 = τ 91 5 := (hGσ2 91 5 (show ¬ ((91 = 23 ∧ (5 = 4 ∨ 5 = 5))) from by omega))
  have f14 : (-2147483648 : Int) ≤ τ 91 5 ∧ τ 91 5 ≤ 2147483647 := hIτ 91 5
  have y15 : σ2 89 94 = τ 89 94 := (hGσ2 89 94 (show ¬ ((89 = 23 ∧ (94 = 4 ∨ 94 = 5))) from by omega))
  have f16 : (-2147483648 : Int) ≤ τ 89 94 ∧ τ 89 94 ≤ 2147483647 := hIτ 89 94
  replace q9_1 : ((σ2 89 95 = 0 ∧ σ8 91 6 = σ2 91 6) ∨ (¬ σ2 89 95 = 0 ∧ σ8 91 6 = lrn (σ2 89 96) (σ2 89 95))) := q9_1
  have y17 : σ2 89 95 = τ 89 95 := (hGσ2 89 95 (show ¬ ((89 = 23 ∧ (95 = 4 ∨ 95 = 5))) from by omega))
  have f18 : (0 : Int) ≤ τ 89 95 ∧ τ 89 95 ≤ 999 := hIτ 89 95
  have y19 : σ2 91 6 = τ 91 6 := (hGσ2 91 6 (show ¬ ((91 = 23 ∧ (6 = 4 ∨ 6 = 5))) from by omega))
  have f20 : (-2147483648 : Int) ≤ τ 91 6 ∧ τ 91 6 ≤ 2147483647 := hIτ 91 6
  have y21 : σ2 89 96 = τ 89 96 := (hGσ2 89 96 (show ¬ ((89 = 23 ∧ (96 = 4 ∨ 96 = 5))) from by omega))
  have f22 : (-2147483648 : Int) ≤ τ 89 96 ∧ τ 89 96 ≤ 2147483647 := hIτ 89 96
  replace q9_2 : ((σ8 91 5 = σ2 91 5 ∧ σ8 91 6 = σ2 91 6 ∧ r10 = 0) ∨ (¬ σ8 91 5 = σ2 91 5 ∧ σ8 91 6 = σ2 91 6 ∧ r10 = 1) ∨ (σ8 91 5 = σ2 91 5 ∧ ¬ σ8 91 6 = σ2 91 6 ∧ r10 = 1) ∨ (¬ σ8 91 5 = σ2 91 5 ∧ ¬ σ8 91 6 = σ2 91 6 ∧ r10 = 2)) := q9_2
  have y23 : σ2 91 5 = τ 91 5 := (hGσ2 91 5 (show ¬ ((91 = 23 ∧ (5 = 4 ∨ 5 = 5))) from by omega))
  have y24 : σ2 91 6 = τ 91 6 := (hGσ2 91 6 (show ¬ ((91 = 23 ∧ (6 = 4 ∨ 6 = 5))) from by omega))
  refine j_st (st' := [vI r10]) rfl ?_
  have y25 : σ8 10 10 = τ 10 10 := ((hGσ8 10 10 (show ¬ ((10 = 91 ∧ (10 = 5 ∨ 10 = 6))) from by omega))).trans (hGσ2 10 10 (show ¬ ((10 = 23 ∧ (10 = 4 ∨ 10 = 5))) from by omega))
  have bσ8 : BY σ8 := BY_kept bσ2 (fun j => hGσ8 11 j (show ¬ ((11 = 91 ∧ (j = 5 ∨ j = 6))) from by omega)) (fun j => hGσ8 98 j (show ¬ ((98 = 91 ∧ (j = 5 ∨ j = 6))) from by omega)) (by omega)
  have mσ8 : mI σ8 := mI_kept mσ2 (fun j hj => hGσ8 89 j (show ¬ ((89 = 91 ∧ (j = 5 ∨ j = 6))) from by omega)) (fun j => hGσ8 90 j (show ¬ ((90 = 91 ∧ (j = 5 ∨ j = 6))) from by omega)) (hGσ8 91 0 (show ¬ ((91 = 91 ∧ (0 = 5 ∨ 0 = 6))) from by omega)) hIσ2
  have sσ8 : SR σ8 := SR_kept sσ2 (fun c j h => hGσ8 c j (show ¬ ((c = 91 ∧ (j = 5 ∨ j = 6))) from by omega)) (fun j => hGσ8 104 j (show ¬ ((104 = 91 ∧ (j = 5 ∨ j = 6))) from by omega)) (fun j => hGσ8 105 j (show ¬ ((105 = 91 ∧ (j = 5 ∨ j = 6))) from by omega))
  have tσ8 : TT σ8 := TT_kept tσ2 (fun c j h => hGσ8 c j (show ¬ ((c = 91 ∧ (j = 5 ∨ j = 6))) from by omega)) (fun j h => hGσ8 89 j (show ¬ ((89 = 91 ∧ (j = 5 ∨ j = 6))) from by omega))
  have ht9 : (1 : Int) ≤ τ 91 0 ∧ τ 91 0 ≤ 40 := hIτ 91 0
  have st9 := ST_learn2 stτ tτ.1 tτ.2.1 tτ.2.2.1 tτ.2.2.2.1 q3_0 q3_1 q3_2 q9_0 q9_1 q9_2 (fun c j h => hGσ2 c j (show ¬ ((c = 23 ∧ (j = 4 ∨ j = 5))) from by omega)) (fun c j h => hGσ8 c j (show ¬ ((c = 91 ∧ (j = 5 ∨ j = 6))) from by omega))
  have rr9 := st9.2
  clear q3_0 q3_1 q3_2 q9_0 q9_1 q9_2
  refine j_pop (pc := 1018) dL_law_1018 rfl ?_
  refine j_goto (pc := 1019) (tgt := 1352) dL_law_1019 rfl ?_
  have y26 : σ8 10 10 = τ 10 10 := ((hGσ8 10 10 (show ¬ ((10 = 91 ∧ (10 = 5 ∨ 10 = 6))) from by omega))).trans (hGσ2 10 10 (show ¬ ((10 = 23 ∧ (10 = 4 ∨ 10 = 5))) from by omega))
  have y27 : σ8 88 12 = τ 88 12 := ((hGσ8 88 12 (show ¬ ((88 = 91 ∧ (12 = 5 ∨ 12 = 6))) from by omega))).trans (hGσ2 88 12 (show ¬ ((88 = 23 ∧ (12 = 4 ∨ 12 = 5))) from by omega))
  have f28 : (0 : Int) ≤ τ 88 12 ∧ τ 88 12 ≤ 400 := hIτ 88 12
  have y29 : σ8 0 13 = τ 0 13 := ((hGσ8 0 13 (show ¬ ((0 = 91 ∧ (13 = 5 ∨ 13 = 6))) from by omega))).trans (hGσ2 0 13 (show ¬ ((0 = 23 ∧ (13 = 4 ∨ 13 = 5))) from by omega))
  have f30 : (-2147483648 : Int) ≤ τ 0 13 ∧ τ 0 13 ≤ 2147483647 := hIτ 0 13
  have y31 : σ8 88 17 = τ 88 17 := ((hGσ8 88 17 (show ¬ ((88 = 91 ∧ (17 = 5 ∨ 17 = 6))) from by omega))).trans (hGσ2 88 17 (show ¬ ((88 = 23 ∧ (17 = 4 ∨ 17 = 5))) from by omega))
  have f32 : (0 : Int) ≤ τ 88 17 ∧ τ 88 17 ≤ 5 := hIτ 88 17
  have y33 : σ8 31 6 = τ 31 6 := ((hGσ8 31 6 (show ¬ ((31 = 91 ∧ (6 = 5 ∨ 6 = 6))) from by omega))).trans (hGσ2 31 6 (show ¬ ((31 = 23 ∧ (6 = 4 ∨ 6 = 5))) from by omega))
  have f34 : (0 : Int) ≤ τ 31 6 ∧ τ 31 6 ≤ 1 := hIτ 31 6
  have y35 : σ8 39 6 = τ 39 6 := ((hGσ8 39 6 (show ¬ ((39 = 91 ∧ (6 = 5 ∨ 6 = 6))) from by omega))).trans (hGσ2 39 6 (show ¬ ((39 = 23 ∧ (6 = 4 ∨ 6 = 5))) from by omega))
  have f36 : (0 : Int) ≤ τ 39 6 ∧ τ 39 6 ≤ 1 := hIτ 39 6
  have y37 : σ8 90 0 = τ 90 0 := ((hGσ8 90 0 (show ¬ ((90 = 91 ∧ (0 = 5 ∨ 0 = 6))) from by omega))).trans (hGσ2 90 0 (show ¬ ((90 = 23 ∧ (0 = 4 ∨ 0 = 5))) from by omega))
  have f38 : (0 : Int) ≤ τ 90 0 ∧ τ 90 0 ≤ 1 := hIτ 90 0
  have y39 : σ8 90 1 = τ 90 1 := ((hGσ8 90 1 (show ¬ ((90 = 91 ∧ (1 = 5 ∨ 1 = 6))) from by omega))).trans (hGσ2 90 1 (show ¬ ((90 = 23 ∧ (1 = 4 ∨ 1 = 5))) from by omega))
  have f40 : (0 : Int) ≤ τ 90 1 ∧ τ 90 1 ≤ 1 := hIτ 90 1
  exact K σ8 hIσ8 ⟨mσ8, by omega, sσ8, bσ8, by omega, by omega, by omega, tσ8, st9.1⟩
set_option maxHeartbeats 4000000 in
set_option maxRecDepth 100000 in
theorem w_case_28 {G : tw_G} (hX : tw_isX G) (hM : tw_isM G) {E : List Frame → Array Value → State → State → Prop} (hN : (gN G : Int) ≤ 2560) (i : Int) (hi : 0 ≤ i ∧ i + 5 ≤ (gN G : Int)) (τ : tw_M) (hIτ : tw_I τ) (hL : tw_LI τ) (K : ∀ τ' : tw_M, tw_I τ' → tw_LI τ' → tw_J G tw_ML E 1352 [(0, vR 300), (1, vR 0), (2, vR 88), (3, vI i)] [] τ') : tw_J G tw_ML E 1022 [(0, vR 300), (1, vR 0), (2, vR 88), (3, vI i)] [] τ := by
  obtain ⟨mτ, zτ, sτ, bτ, fτ, kτ0, kτ1, tτ, stτ⟩ := hL
  have g9 : (0 : Int) ≤ τ 10 10 ∧ τ 10 10 ≤ 400 := hIτ 10 10
  obtain ⟨v1, ev1⟩ : ∃ v : Int, v = (gxs G (i + 1).toNat).toInt := ⟨_, rfl⟩
  have hv1 : (-2147483648 : Int) ≤ v1 ∧ v1 ≤ 2147483647 := by rw [ev1]; exact i32_in _
  obtain ⟨v2, ev2⟩ : ∃ v : Int, v = (gxs G (i + 2).toNat).toInt := ⟨_, rfl⟩
  have hv2 : (-2147483648 : Int) ≤ v2 ∧ v2 ≤ 2147483647 := by rw [ev2]; exact i32_in _
  obtain ⟨v3, ev3⟩ : ∃ v : Int, v = (gxs G (i + 3).toNat).toInt := ⟨_, rfl⟩
  have hv3 : (-2147483648 : Int) ≤ v3 ∧ v3 ≤ 2147483647 := by rw [ev3]; exact i32_in _
  obtain ⟨v4, ev4⟩ : ∃ v : Int, v = (gxs G (i + 4).toNat).toInt := ⟨_, rfl⟩
  have hv4 : (-2147483648 : Int) ≤ v4 ∧ v4 ≤ 2147483647 := by rw [ev4]; exact i32_in _
  refine j_aload_n (pc := 1022) dL_law_1022 rfl rfl ?_
  refine j_aload_n (pc := 1023) dL_law_1023 rfl rfl ?_
  refine j_iload_n (pc := 1024) dL_law_1024 rfl rfl ?_
  refine j_iconst (pc := 1025) dL_law_1025 ?_
  refine j_iadd (pc := 1026) dL_law_1026 ?_
  refine j_scrAt (pc := 1027) dL_law_1027 (by omega) (by omega) (by omega) ?_
  refine j_topV (show _ = v1 from ev1.symm) ?_
  refine j_aload_n (pc := 1028) dL_law_1028 rfl rfl ?_
  refine j_iload_n (pc := 1029) dL_law_1029 rfl rfl ?_
  refine j_iconst (pc := 1030) dL_law_1030 ?_
  refine j_iadd (pc := 1031) dL_law_1031 ?_
  refine j_scrAt (pc := 1032) dL_law_1032 (by omega) (by omega) (by omega) ?_
  refine j_topV (show _ = v2 from ev2.symm) ?_
  refine j_callV (pc := 1033) (As := [vI v1, vI v2]) (st := []) (c_X11_story hX v1 ⟨by omega, by omega⟩ v2 ⟨by omega, by omega⟩ τ hIτ) mv_L_136 rfl rfl rfl (a_0 hX) dL_law_1033 ⟨Nat.le_of_ble_eq_true rfl, Nat.le_of_ble_eq_true rfl⟩ ⟨Nat.le_of_ble_eq_true rfl, Nat.le_of_ble_eq_true rfl⟩ rfl (Nat.le_of_ble_eq_true rfl) rfl (fun z1 σ2 hz1 => ?_)
  obtain ⟨r4, rfl, hr4, hIσ2, hGσ2, -⟩ := hz1
  refine j_st (st' := [vL r4]) rfl ?_
  have y5 : σ2 10 10 = τ 10 10 := (hGσ2 10 10 (show ¬ (10 = 55) from by omega))
  have f6 : (0 : Int) ≤ τ 10 10 ∧ τ 10 10 ≤ 400 := hIτ 10 10
  have bσ2 : BY σ2 := BY_kept bτ (fun j => hGσ2 11 j (show ¬ (11 = 55) from by omega)) (fun j => hGσ2 98 j (show ¬ (98 = 55) from by omega)) (by omega)
  have mσ2 : mI σ2 := mI_kept mτ (fun j hj => hGσ2 89 j (show ¬ (89 = 55) from by omega)) (fun j => hGσ2 90 j (show ¬ (90 = 55) from by omega)) (hGσ2 91 0 (show ¬ (91 = 55) from by omega)) hIτ
  have sσ2 : SR σ2 := SR_kept sτ (fun c j h => hGσ2 c j (show ¬ (c = 55) from by omega)) (fun j => hGσ2 104 j (show ¬ (104 = 55) from by omega)) (fun j => hGσ2 105 j (show ¬ (105 = 55) from by omega))
  have tσ2 : TT σ2 := TT_kept tτ (fun c j h => hGσ2 c j (show ¬ (c = 55) from by omega)) (fun j h => hGσ2 89 j (show ¬ (89 = 55) from by omega))
  have stσ2 : ST σ2 := ST_F stτ (fun c j h => hGσ2 c j (show ¬ (c = 55) from by unfold STR at h; omega))
  refine j_pop2 (pc := 1036) dL_law_1036 rfl ?_
  refine j_aload_n (pc := 1037) dL_law_1037 rfl rfl ?_
  refine j_aload_n (pc := 1038) dL_law_1038 rfl rfl ?_
  refine j_iload_n (pc := 1039) dL_law_1039 rfl rfl ?_
  refine j_iconst (pc := 1040) dL_law_1040 ?_
  refine j_iadd (pc := 1041) dL_law_1041 ?_
  refine j_scrAt (pc := 1042) dL_law_1042 (by omega) (by omega) (by omega) ?_
  refine j_topV (show _ = v1 from ev1.symm) ?_
  refine j_aload_n (pc := 1043) dL_law_1043 rfl rfl ?_
  refine j_iload_n (pc := 1044) dL_law_1044 rfl rfl ?_
  refine j_iconst (pc := 1045) dL_law_1045 ?_
  refine j_iadd (pc := 1046) dL_law_1046 ?_
  refine j_scrAt (pc := 1047) dL_law_1047 (by omega) (by omega) (by omega) ?_
  refine j_topV (show _ = v2 from ev2.symm) ?_
  refine j_callV (pc := 1048) (As := [vI v1, vI v2]) (st := []) (c_X12_story hM v1 ⟨by omega, by omega⟩ v2 ⟨by omega, by omega⟩ σ2 hIσ2) mv_L_139 rfl rfl rfl (a_88 hM) dL_law_1048 ⟨Nat.le_of_ble_eq_true rfl, Nat.le_of_ble_eq_true rfl⟩ ⟨Nat.le_of_ble_eq_true rfl, Nat.le_of_ble_eq_true rfl⟩ rfl (Nat.le_of_ble_eq_true rfl) rfl (fun z7 σ8 hz7 => ?_)
  obtain ⟨r10, rfl, hr10, hIσ8, hGσ8, -⟩ := hz7
  refine j_st (st' := [vL r10]) rfl ?_
  have y11 : σ8 10 10 = τ 10 10 := ((hGσ8 10 10 (show ¬ ((10 = 88 ∧ (10 = 19 ∨ 10 = 20 ∨ 10 = 21 ∨ 10 = 22 ∨ 10 = 23))) from by omega))).trans (hGσ2 10 10 (show ¬ (10 = 55) from by omega))
  have bσ8 : BY σ8 := BY_kept bσ2 (fun j => hGσ8 11 j (show ¬ ((11 = 88 ∧ (j = 19 ∨ j = 20 ∨ j = 21 ∨ j = 22 ∨ j = 23))) from by omega)) (fun j => hGσ8 98 j (show ¬ ((98 = 88 ∧ (j = 19 ∨ j = 20 ∨ j = 21 ∨ j = 22 ∨ j = 23))) from by omega)) (by omega)
  have mσ8 : mI σ8 := mI_kept mσ2 (fun j hj => hGσ8 89 j (show ¬ ((89 = 88 ∧ (j = 19 ∨ j = 20 ∨ j = 21 ∨ j = 22 ∨ j = 23))) from by omega)) (fun j => hGσ8 90 j (show ¬ ((90 = 88 ∧ (j = 19 ∨ j = 20 ∨ j = 21 ∨ j = 22 ∨ j = 23))) from by omega)) (hGσ8 91 0 (show ¬ ((91 = 88 ∧ (0 = 19 ∨ 0 = 20 ∨ 0 = 21 ∨ 0 = 22 ∨ 0 = 23))) from by omega)) hIσ2
  have sσ8 : SR σ8 := SR_kept sσ2 (fun c j h => hGσ8 c j (show ¬ ((c = 88 ∧ (j = 19 ∨ j = 20 ∨ j = 21 ∨ j = 22 ∨ j = 23))) from by omega)) (fun j => hGσ8 104 j (show ¬ ((104 = 88 ∧ (j = 19 ∨ j = 20 ∨ j = 21 ∨ j = 22 ∨ j = 23))) from by omega)) (fun j => hGσ8 105 j (show ¬ ((105 = 88 ∧ (j = 19 ∨ j = 20 ∨ j = 21 ∨ j = 22 ∨ j = 23))) from by omega))
  have tσ8 : TT σ8 := TT_kept tσ2 (fun c j h => hGσ8 c j (show ¬ ((c = 88 ∧ (j = 19 ∨ j = 20 ∨ j = 21 ∨ j = 22 ∨ j = 23))) from by omega)) (fun j h => hGσ8 89 j (show ¬ ((89 = 88 ∧ (j = 19 ∨ j = 20 ∨ j = 21 ∨ j = 22 ∨ j = 23))) from by omega))
  have stσ8 : ST σ8 := ST_F stσ2 (fun c j h => hGσ8 c j (show ¬ ((c = 88 ∧ (j = 19 ∨ j = 20 ∨ j = 21 ∨ j = 22 ∨ j = 23))) from by unfold STR at h; omega))
  refine j_pop2 (pc := 1051) dL_law_1051 rfl ?_
  refine j_goto (pc := 1052) (tgt := 1352) dL_law_1052 rfl ?_
  have y12 : σ8 10 10 = τ 10 10 := ((hGσ8 10 10 (show ¬ ((10 = 88 ∧ (10 = 19 ∨ 10 = 20 ∨ 10 = 21 ∨ 10 = 22 ∨ 10 = 23))) from by omega))).trans (hGσ2 10 10 (show ¬ (10 = 55) from by omega))
  have y13 : σ8 88 12 = τ 88 12 := ((hGσ8 88 12 (show ¬ ((88 = 88 ∧ (12 = 19 ∨ 12 = 20 ∨ 12 = 21 ∨ 12 = 22 ∨ 12 = 23))) from by omega))).trans (hGσ2 88 12 (show ¬ (88 = 55) from by omega))
  have f14 : (0 : Int) ≤ τ 88 12 ∧ τ 88 12 ≤ 400 := hIτ 88 12
  have y15 : σ8 0 13 = τ 0 13 := ((hGσ8 0 13 (show ¬ ((0 = 88 ∧ (13 = 19 ∨ 13 = 20 ∨ 13 = 21 ∨ 13 = 22 ∨ 13 = 23))) from by omega))).trans (hGσ2 0 13 (show ¬ (0 = 55) from by omega))
  have f16 : (-2147483648 : Int) ≤ τ 0 13 ∧ τ 0 13 ≤ 2147483647 := hIτ 0 13
  have y17 : σ8 88 17 = τ 88 17 := ((hGσ8 88 17 (show ¬ ((88 = 88 ∧ (17 = 19 ∨ 17 = 20 ∨ 17 = 21 ∨ 17 = 22 ∨ 17 = 23))) from by omega))).trans (hGσ2 88 17 (show ¬ (88 = 55) from by omega))
  have f18 : (0 : Int) ≤ τ 88 17 ∧ τ 88 17 ≤ 5 := hIτ 88 17
  have y19 : σ8 31 6 = τ 31 6 := ((hGσ8 31 6 (show ¬ ((31 = 88 ∧ (6 = 19 ∨ 6 = 20 ∨ 6 = 21 ∨ 6 = 22 ∨ 6 = 23))) from by omega))).trans (hGσ2 31 6 (show ¬ (31 = 55) from by omega))
  have f20 : (0 : Int) ≤ τ 31 6 ∧ τ 31 6 ≤ 1 := hIτ 31 6
  have y21 : σ8 39 6 = τ 39 6 := ((hGσ8 39 6 (show ¬ ((39 = 88 ∧ (6 = 19 ∨ 6 = 20 ∨ 6 = 21 ∨ 6 = 22 ∨ 6 = 23))) from by omega))).trans (hGσ2 39 6 (show ¬ (39 = 55) from by omega))
  have f22 : (0 : Int) ≤ τ 39 6 ∧ τ 39 6 ≤ 1 := hIτ 39 6
  have y23 : σ8 90 0 = τ 90 0 := ((hGσ8 90 0 (show ¬ ((90 = 88 ∧ (0 = 19 ∨ 0 = 20 ∨ 0 = 21 ∨ 0 = 22 ∨ 0 = 23))) from by omega))).trans (hGσ2 90 0 (show ¬ (90 = 55) from by omega))
  have f24 : (0 : Int) ≤ τ 90 0 ∧ τ 90 0 ≤ 1 := hIτ 90 0
  have y25 : σ8 90 1 = τ 90 1 := ((hGσ8 90 1 (show ¬ ((90 = 88 ∧ (1 = 19 ∨ 1 = 20 ∨ 1 = 21 ∨ 1 = 22 ∨ 1 = 23))) from by omega))).trans (hGσ2 90 1 (show ¬ (90 = 55) from by omega))
  have f26 : (0 : Int) ≤ τ 90 1 ∧ τ 90 1 ≤ 1 := hIτ 90 1
  exact K σ8 hIσ8 ⟨mσ8, by omega, sσ8, bσ8, by omega, by omega, by omega, tσ8, stσ8⟩
set_option maxHeartbeats 4000000 in
set_option maxRecDepth 100000 in
theorem w_case_29 {G : tw_G} (hX : tw_isX G) (hM : tw_isM G) {E : List Frame → Array Value → State → State → Prop} (hN : (gN G : Int) ≤ 2560) (i : Int) (hi : 0 ≤ i ∧ i + 5 ≤ (gN G : Int)) (τ : tw_M) (hIτ : tw_I τ) (hL : tw_LI τ) (K : ∀ τ' : tw_M, tw_I τ' → tw_LI τ' → tw_J G tw_ML E 1352 [(0, vR 300), (1, vR 0), (2, vR 88), (3, vI i)] [] τ') : tw_J G tw_ML E 1055 [(0, vR 300), (1, vR 0), (2, vR 88), (3, vI i)] [] τ := by
  obtain ⟨mτ, zτ, sτ, bτ, fτ, kτ0, kτ1, tτ, stτ⟩ := hL
  have g9 : (0 : Int) ≤ τ 10 10 ∧ τ 10 10 ≤ 400 := hIτ 10 10
  obtain ⟨v1, ev1⟩ : ∃ v : Int, v = (gxs G (i + 1).toNat).toInt := ⟨_, rfl⟩
  have hv1 : (-2147483648 : Int) ≤ v1 ∧ v1 ≤ 2147483647 := by rw [ev1]; exact i32_in _
  obtain ⟨v2, ev2⟩ : ∃ v : Int, v = (gxs G (i + 2).toNat).toInt := ⟨_, rfl⟩
  have hv2 : (-2147483648 : Int) ≤ v2 ∧ v2 ≤ 2147483647 := by rw [ev2]; exact i32_in _
  obtain ⟨v3, ev3⟩ : ∃ v : Int, v = (gxs G (i + 3).toNat).toInt := ⟨_, rfl⟩
  have hv3 : (-2147483648 : Int) ≤ v3 ∧ v3 ≤ 2147483647 := by rw [ev3]; exact i32_in _
  obtain ⟨v4, ev4⟩ : ∃ v : Int, v = (gxs G (i + 4).toNat).toInt := ⟨_, rfl⟩
  have hv4 : (-2147483648 : Int) ≤ v4 ∧ v4 ≤ 2147483647 := by rw [ev4]; exact i32_in _
  refine j_aload_n (pc := 1055) dL_law_1055 rfl rfl ?_
  refine j_aload_n (pc := 1056) dL_law_1056 rfl rfl ?_
  refine j_iload_n (pc := 1057) dL_law_1057 rfl rfl ?_
  refine j_iconst (pc := 1058) dL_law_1058 ?_
  refine j_iadd (pc := 1059) dL_law_1059 ?_
  refine j_scrAt (pc := 1060) dL_law_1060 (by omega) (by omega) (by omega) ?_
  refine j_topV (show _ = v1 from ev1.symm) ?_
  refine j_aload_n (pc := 1061) dL_law_1061 rfl rfl ?_
  refine j_iload_n (pc := 1062) dL_law_1062 rfl rfl ?_
  refine j_iconst (pc := 1063) dL_law_1063 ?_
  refine j_iadd (pc := 1064) dL_law_1064 ?_
  refine j_scrAt (pc := 1065) dL_law_1065 (by omega) (by omega) (by omega) ?_
  refine j_topV (show _ = v2 from ev2.symm) ?_
  refine j_aload_n (pc := 1066) dL_law_1066 rfl rfl ?_
  refine j_iload_n (pc := 1067) dL_law_1067 rfl rfl ?_
  refine j_iconst (pc := 1068) dL_law_1068 ?_
  refine j_iadd (pc := 1069) dL_law_1069 ?_
  refine j_scrAt (pc := 1070) dL_law_1070 (by omega) (by omega) (by omega) ?_
  refine j_topV (show _ = v3 from ev3.symm) ?_
  refine j_aload_n (pc := 1071) dL_law_1071 rfl rfl ?_
  refine j_iload_n (pc := 1072) dL_law_1072 rfl rfl ?_
  refine j_iconst (pc := 1073) dL_law_1073 ?_
  refine j_iadd (pc := 1074) dL_law_1074 ?_
  refine j_scrAt (pc := 1075) dL_law_1075 (by omega) (by omega) (by omega) ?_
  refine j_topV (show _ = v4 from ev4.symm) ?_
  refine j_callV (pc := 1076) (As := [vI v1, vI v2, vI v3, vI v4]) (st := []) (c_X11_odds hX v1 ⟨by omega, by omega⟩ v2 ⟨by omega, by omega⟩ v3 ⟨by omega, by omega⟩ v4 ⟨by omega, by omega⟩ τ hIτ) mv_L_140 rfl rfl rfl (a_0 hX) dL_law_1076 ⟨Nat.le_of_ble_eq_true rfl, Nat.le_of_ble_eq_true rfl⟩ ⟨Nat.le_of_ble_eq_true rfl, Nat.le_of_ble_eq_true rfl⟩ rfl (Nat.le_of_ble_eq_true rfl) rfl (fun z1 σ2 hz1 => ?_)
  obtain ⟨r4, rfl, hr4, hIσ2, hGσ2, -⟩ := hz1
  refine j_st (st' := [vL r4]) rfl ?_
  have y5 : σ2 10 10 = τ 10 10 := (hGσ2 10 10 (show ¬ ((10 = 58 ∧ (10 = 2 ∨ 10 = 3)) ∨ 10 = 59) from by omega))
  have f6 : (0 : Int) ≤ τ 10 10 ∧ τ 10 10 ≤ 400 := hIτ 10 10
  have bσ2 : BY σ2 := BY_kept bτ (fun j => hGσ2 11 j (show ¬ ((11 = 58 ∧ (j = 2 ∨ j = 3)) ∨ 11 = 59) from by omega)) (fun j => hGσ2 98 j (show ¬ ((98 = 58 ∧ (j = 2 ∨ j = 3)) ∨ 98 = 59) from by omega)) (by omega)
  have mσ2 : mI σ2 := mI_kept mτ (fun j hj => hGσ2 89 j (show ¬ ((89 = 58 ∧ (j = 2 ∨ j = 3)) ∨ 89 = 59) from by omega)) (fun j => hGσ2 90 j (show ¬ ((90 = 58 ∧ (j = 2 ∨ j = 3)) ∨ 90 = 59) from by omega)) (hGσ2 91 0 (show ¬ ((91 = 58 ∧ (0 = 2 ∨ 0 = 3)) ∨ 91 = 59) from by omega)) hIτ
  have sσ2 : SR σ2 := SR_kept sτ (fun c j h => hGσ2 c j (show ¬ ((c = 58 ∧ (j = 2 ∨ j = 3)) ∨ c = 59) from by omega)) (fun j => hGσ2 104 j (show ¬ ((104 = 58 ∧ (j = 2 ∨ j = 3)) ∨ 104 = 59) from by omega)) (fun j => hGσ2 105 j (show ¬ ((105 = 58 ∧ (j = 2 ∨ j = 3)) ∨ 105 = 59) from by omega))
  have tσ2 : TT σ2 := TT_kept tτ (fun c j h => hGσ2 c j (show ¬ ((c = 58 ∧ (j = 2 ∨ j = 3)) ∨ c = 59) from by omega)) (fun j h => hGσ2 89 j (show ¬ ((89 = 58 ∧ (j = 2 ∨ j = 3)) ∨ 89 = 59) from by omega))
  have stσ2 : ST σ2 := ST_F stτ (fun c j h => hGσ2 c j (show ¬ ((c = 58 ∧ (j = 2 ∨ j = 3)) ∨ c = 59) from by unfold STR at h; omega))
  refine j_pop2 (pc := 1079) dL_law_1079 rfl ?_
  refine j_aload_n (pc := 1080) dL_law_1080 rfl rfl ?_
  refine j_aload_n (pc := 1081) dL_law_1081 rfl rfl ?_
  refine j_iload_n (pc := 1082) dL_law_1082 rfl rfl ?_
  refine j_iconst (pc := 1083) dL_law_1083 ?_
  refine j_iadd (pc := 1084) dL_law_1084 ?_
  refine j_scrAt (pc := 1085) dL_law_1085 (by omega) (by omega) (by omega) ?_
  refine j_topV (show _ = v1 from ev1.symm) ?_
  refine j_aload_n (pc := 1086) dL_law_1086 rfl rfl ?_
  refine j_iload_n (pc := 1087) dL_law_1087 rfl rfl ?_
  refine j_iconst (pc := 1088) dL_law_1088 ?_
  refine j_iadd (pc := 1089) dL_law_1089 ?_
  refine j_scrAt (pc := 1090) dL_law_1090 (by omega) (by omega) (by omega) ?_
  refine j_topV (show _ = v2 from ev2.symm) ?_
  refine j_aload_n (pc := 1091) dL_law_1091 rfl rfl ?_
  refine j_iload_n (pc := 1092) dL_law_1092 rfl rfl ?_
  refine j_iconst (pc := 1093) dL_law_1093 ?_
  refine j_iadd (pc := 1094) dL_law_1094 ?_
  refine j_scrAt (pc := 1095) dL_law_1095 (by omega) (by omega) (by omega) ?_
  refine j_topV (show _ = v3 from ev3.symm) ?_
  refine j_aload_n (pc := 1096) dL_law_1096 rfl rfl ?_
  refine j_iload_n (pc := 1097) dL_law_1097 rfl rfl ?_
  refine j_iconst (pc := 1098) dL_law_1098 ?_
  refine j_iadd (pc := 1099) dL_law_1099 ?_
  refine j_scrAt (pc := 1100) dL_law_1100 (by omega) (by omega) (by omega) ?_
  refine j_topV (show _ = v4 from ev4.symm) ?_
  refine j_callV (pc := 1101) (As := [vI v1, vI v2, vI v3, vI v4]) (st := []) (c_X12_odds hM v1 ⟨by omega, by omega⟩ v2 ⟨by omega, by omega⟩ v3 ⟨by omega, by omega⟩ v4 ⟨by omega, by omega⟩ σ2 hIσ2) mv_L_144 rfl rfl rfl (a_88 hM) dL_law_1101 ⟨Nat.le_of_ble_eq_true rfl, Nat.le_of_ble_eq_true rfl⟩ ⟨Nat.le_of_ble_eq_true rfl, Nat.le_of_ble_eq_true rfl⟩ rfl (Nat.le_of_ble_eq_true rfl) rfl (fun z7 σ8 hz7 => ?_)
  obtain ⟨r10, rfl, hr10, hIσ8, hGσ8, -⟩ := hz7
  refine j_st (st' := [vL r10]) rfl ?_
  have y11 : σ8 10 10 = τ 10 10 := ((hGσ8 10 10 (show ¬ ((10 = 88 ∧ (10 = 19 ∨ 10 = 20 ∨ 10 = 21 ∨ 10 = 22 ∨ 10 = 23))) from by omega))).trans (hGσ2 10 10 (show ¬ ((10 = 58 ∧ (10 = 2 ∨ 10 = 3)) ∨ 10 = 59) from by omega))
  have bσ8 : BY σ8 := BY_kept bσ2 (fun j => hGσ8 11 j (show ¬ ((11 = 88 ∧ (j = 19 ∨ j = 20 ∨ j = 21 ∨ j = 22 ∨ j = 23))) from by omega)) (fun j => hGσ8 98 j (show ¬ ((98 = 88 ∧ (j = 19 ∨ j = 20 ∨ j = 21 ∨ j = 22 ∨ j = 23))) from by omega)) (by omega)
  have mσ8 : mI σ8 := mI_kept mσ2 (fun j hj => hGσ8 89 j (show ¬ ((89 = 88 ∧ (j = 19 ∨ j = 20 ∨ j = 21 ∨ j = 22 ∨ j = 23))) from by omega)) (fun j => hGσ8 90 j (show ¬ ((90 = 88 ∧ (j = 19 ∨ j = 20 ∨ j = 21 ∨ j = 22 ∨ j = 23))) from by omega)) (hGσ8 91 0 (show ¬ ((91 = 88 ∧ (0 = 19 ∨ 0 = 20 ∨ 0 = 21 ∨ 0 = 22 ∨ 0 = 23))) from by omega)) hIσ2
  have sσ8 : SR σ8 := SR_kept sσ2 (fun c j h => hGσ8 c j (show ¬ ((c = 88 ∧ (j = 19 ∨ j = 20 ∨ j = 21 ∨ j = 22 ∨ j = 23))) from by omega)) (fun j => hGσ8 104 j (show ¬ ((104 = 88 ∧ (j = 19 ∨ j = 20 ∨ j = 21 ∨ j = 22 ∨ j = 23))) from by omega)) (fun j => hGσ8 105 j (show ¬ ((105 = 88 ∧ (j = 19 ∨ j = 20 ∨ j = 21 ∨ j = 22 ∨ j = 23))) from by omega))
  have tσ8 : TT σ8 := TT_kept tσ2 (fun c j h => hGσ8 c j (show ¬ ((c = 88 ∧ (j = 19 ∨ j = 20 ∨ j = 21 ∨ j = 22 ∨ j = 23))) from by omega)) (fun j h => hGσ8 89 j (show ¬ ((89 = 88 ∧ (j = 19 ∨ j = 20 ∨ j = 21 ∨ j = 22 ∨ j = 23))) from by omega))
  have stσ8 : ST σ8 := ST_F stσ2 (fun c j h => hGσ8 c j (show ¬ ((c = 88 ∧ (j = 19 ∨ j = 20 ∨ j = 21 ∨ j = 22 ∨ j = 23))) from by unfold STR at h; omega))
  refine j_pop2 (pc := 1104) dL_law_1104 rfl ?_
  refine j_goto (pc := 1105) (tgt := 1352) dL_law_1105 rfl ?_
  have y12 : σ8 10 10 = τ 10 10 := ((hGσ8 10 10 (show ¬ ((10 = 88 ∧ (10 = 19 ∨ 10 = 20 ∨ 10 = 21 ∨ 10 = 22 ∨ 10 = 23))) from by omega))).trans (hGσ2 10 10 (show ¬ ((10 = 58 ∧ (10 = 2 ∨ 10 = 3)) ∨ 10 = 59) from by omega))
  have y13 : σ8 88 12 = τ 88 12 := ((hGσ8 88 12 (show ¬ ((88 = 88 ∧ (12 = 19 ∨ 12 = 20 ∨ 12 = 21 ∨ 12 = 22 ∨ 12 = 23))) from by omega))).trans (hGσ2 88 12 (show ¬ ((88 = 58 ∧ (12 = 2 ∨ 12 = 3)) ∨ 88 = 59) from by omega))
  have f14 : (0 : Int) ≤ τ 88 12 ∧ τ 88 12 ≤ 400 := hIτ 88 12
  have y15 : σ8 0 13 = τ 0 13 := ((hGσ8 0 13 (show ¬ ((0 = 88 ∧ (13 = 19 ∨ 13 = 20 ∨ 13 = 21 ∨ 13 = 22 ∨ 13 = 23))) from by omega))).trans (hGσ2 0 13 (show ¬ ((0 = 58 ∧ (13 = 2 ∨ 13 = 3)) ∨ 0 = 59) from by omega))
  have f16 : (-2147483648 : Int) ≤ τ 0 13 ∧ τ 0 13 ≤ 2147483647 := hIτ 0 13
  have y17 : σ8 88 17 = τ 88 17 := ((hGσ8 88 17 (show ¬ ((88 = 88 ∧ (17 = 19 ∨ 17 = 20 ∨ 17 = 21 ∨ 17 = 22 ∨ 17 = 23))) from by omega))).trans (hGσ2 88 17 (show ¬ ((88 = 58 ∧ (17 = 2 ∨ 17 = 3)) ∨ 88 = 59) from by omega))
  have f18 : (0 : Int) ≤ τ 88 17 ∧ τ 88 17 ≤ 5 := hIτ 88 17
  have y19 : σ8 31 6 = τ 31 6 := ((hGσ8 31 6 (show ¬ ((31 = 88 ∧ (6 = 19 ∨ 6 = 20 ∨ 6 = 21 ∨ 6 = 22 ∨ 6 = 23))) from by omega))).trans (hGσ2 31 6 (show ¬ ((31 = 58 ∧ (6 = 2 ∨ 6 = 3)) ∨ 31 = 59) from by omega))
  have f20 : (0 : Int) ≤ τ 31 6 ∧ τ 31 6 ≤ 1 := hIτ 31 6
  have y21 : σ8 39 6 = τ 39 6 := ((hGσ8 39 6 (show ¬ ((39 = 88 ∧ (6 = 19 ∨ 6 = 20 ∨ 6 = 21 ∨ 6 = 22 ∨ 6 = 23))) from by omega))).trans (hGσ2 39 6 (show ¬ ((39 = 58 ∧ (6 = 2 ∨ 6 = 3)) ∨ 39 = 59) from by omega))
  have f22 : (0 : Int) ≤ τ 39 6 ∧ τ 39 6 ≤ 1 := hIτ 39 6
  have y23 : σ8 90 0 = τ 90 0 := ((hGσ8 90 0 (show ¬ ((90 = 88 ∧ (0 = 19 ∨ 0 = 20 ∨ 0 = 21 ∨ 0 = 22 ∨ 0 = 23))) from by omega))).trans (hGσ2 90 0 (show ¬ ((90 = 58 ∧ (0 = 2 ∨ 0 = 3)) ∨ 90 = 59) from by omega))
  have f24 : (0 : Int) ≤ τ 90 0 ∧ τ 90 0 ≤ 1 := hIτ 90 0
  have y25 : σ8 90 1 = τ 90 1 := ((hGσ8 90 1 (show ¬ ((90 = 88 ∧ (1 = 19 ∨ 1 = 20 ∨ 1 = 21 ∨ 1 = 22 ∨ 1 = 23))) from by omega))).trans (hGσ2 90 1 (show ¬ ((90 = 58 ∧ (1 = 2 ∨ 1 = 3)) ∨ 90 = 59) from by omega))
  have f26 : (0 : Int) ≤ τ 90 1 ∧ τ 90 1 ≤ 1 := hIτ 90 1
  exact K σ8 hIσ8 ⟨mσ8, by omega, sσ8, bσ8, by omega, by omega, by omega, tσ8, stσ8⟩
set_option maxHeartbeats 4000000 in
set_option maxRecDepth 100000 in
theorem w_case_30 {G : tw_G} (hX : tw_isX G) (hM : tw_isM G) {E : List Frame → Array Value → State → State → Prop} (hN : (gN G : Int) ≤ 2560) (i : Int) (hi : 0 ≤ i ∧ i + 5 ≤ (gN G : Int)) (τ : tw_M) (hIτ : tw_I τ) (hL : tw_LI τ) (K : ∀ τ' : tw_M, tw_I τ' → tw_LI τ' → tw_J G tw_ML E 1352 [(0, vR 300), (1, vR 0), (2, vR 88), (3, vI i)] [] τ') : tw_J G tw_ML E 1108 [(0, vR 300), (1, vR 0), (2, vR 88), (3, vI i)] [] τ := by
  obtain ⟨mτ, zτ, sτ, bτ, fτ, kτ0, kτ1, tτ, stτ⟩ := hL
  have g9 : (0 : Int) ≤ τ 10 10 ∧ τ 10 10 ≤ 400 := hIτ 10 10
  obtain ⟨v1, ev1⟩ : ∃ v : Int, v = (gxs G (i + 1).toNat).toInt := ⟨_, rfl⟩
  have hv1 : (-2147483648 : Int) ≤ v1 ∧ v1 ≤ 2147483647 := by rw [ev1]; exact i32_in _
  obtain ⟨v2, ev2⟩ : ∃ v : Int, v = (gxs G (i + 2).toNat).toInt := ⟨_, rfl⟩
  have hv2 : (-2147483648 : Int) ≤ v2 ∧ v2 ≤ 2147483647 := by rw [ev2]; exact i32_in _
  obtain ⟨v3, ev3⟩ : ∃ v : Int, v = (gxs G (i + 3).toNat).toInt := ⟨_, rfl⟩
  have hv3 : (-2147483648 : Int) ≤ v3 ∧ v3 ≤ 2147483647 := by rw [ev3]; exact i32_in _
  obtain ⟨v4, ev4⟩ : ∃ v : Int, v = (gxs G (i + 4).toNat).toInt := ⟨_, rfl⟩
  have hv4 : (-2147483648 : Int) ≤ v4 ∧ v4 ≤ 2147483647 := by rw [ev4]; exact i32_in _
  refine j_aload_n (pc := 1108) dL_law_1108 rfl rfl ?_
  refine j_aload_n (pc := 1109) dL_law_1109 rfl rfl ?_
  refine j_iload_n (pc := 1110) dL_law_1110 rfl rfl ?_
  refine j_iconst (pc := 1111) dL_law_1111 ?_
  refine j_iadd (pc := 1112) dL_law_1112 ?_
  refine j_scrAt (pc := 1113) dL_law_1113 (by omega) (by omega) (by omega) ?_
  refine j_topV (show _ = v1 from ev1.symm) ?_
  refine j_callV (pc := 1114) (As := [vI v1]) (st := []) (c_X11_bolts hX v1 ⟨by omega, by omega⟩ τ hIτ) mv_L_145 rfl rfl rfl (a_0 hX) dL_law_1114 ⟨Nat.le_of_ble_eq_true rfl, Nat.le_of_ble_eq_true rfl⟩ ⟨Nat.le_of_ble_eq_true rfl, Nat.le_of_ble_eq_true rfl⟩ rfl (Nat.le_of_ble_eq_true rfl) rfl (fun z1 σ2 hz1 => ?_)
  obtain ⟨r4, rfl, hr4, hIσ2, hGσ2, -⟩ := hz1
  refine j_st (st' := [vI r4]) rfl ?_
  have y5 : σ2 10 10 = τ 10 10 := (hGσ2 10 10 (show ¬ ((10 = 76 ∧ (10 = 1 ∨ 10 = 4 ∨ 10 = 5)) ∨ (77 ≤ 10 ∧ 10 < 79)) from by omega))
  have f6 : (0 : Int) ≤ τ 10 10 ∧ τ 10 10 ≤ 400 := hIτ 10 10
  have bσ2 : BY σ2 := BY_kept bτ (fun j => hGσ2 11 j (show ¬ ((11 = 76 ∧ (j = 1 ∨ j = 4 ∨ j = 5)) ∨ (77 ≤ 11 ∧ 11 < 79)) from by omega)) (fun j => hGσ2 98 j (show ¬ ((98 = 76 ∧ (j = 1 ∨ j = 4 ∨ j = 5)) ∨ (77 ≤ 98 ∧ 98 < 79)) from by omega)) (by omega)
  have mσ2 : mI σ2 := mI_kept mτ (fun j hj => hGσ2 89 j (show ¬ ((89 = 76 ∧ (j = 1 ∨ j = 4 ∨ j = 5)) ∨ (77 ≤ 89 ∧ 89 < 79)) from by omega)) (fun j => hGσ2 90 j (show ¬ ((90 = 76 ∧ (j = 1 ∨ j = 4 ∨ j = 5)) ∨ (77 ≤ 90 ∧ 90 < 79)) from by omega)) (hGσ2 91 0 (show ¬ ((91 = 76 ∧ (0 = 1 ∨ 0 = 4 ∨ 0 = 5)) ∨ (77 ≤ 91 ∧ 91 < 79)) from by omega)) hIτ
  have sσ2 : SR σ2 := SR_kept sτ (fun c j h => hGσ2 c j (show ¬ ((c = 76 ∧ (j = 1 ∨ j = 4 ∨ j = 5)) ∨ (77 ≤ c ∧ c < 79)) from by omega)) (fun j => hGσ2 104 j (show ¬ ((104 = 76 ∧ (j = 1 ∨ j = 4 ∨ j = 5)) ∨ (77 ≤ 104 ∧ 104 < 79)) from by omega)) (fun j => hGσ2 105 j (show ¬ ((105 = 76 ∧ (j = 1 ∨ j = 4 ∨ j = 5)) ∨ (77 ≤ 105 ∧ 105 < 79)) from by omega))
  have tσ2 : TT σ2 := TT_kept tτ (fun c j h => hGσ2 c j (show ¬ ((c = 76 ∧ (j = 1 ∨ j = 4 ∨ j = 5)) ∨ (77 ≤ c ∧ c < 79)) from by omega)) (fun j h => hGσ2 89 j (show ¬ ((89 = 76 ∧ (j = 1 ∨ j = 4 ∨ j = 5)) ∨ (77 ≤ 89 ∧ 89 < 79)) from by omega))
  have stσ2 : ST σ2 := ST_F stτ (fun c j h => hGσ2 c j (show ¬ ((c = 76 ∧ (j = 1 ∨ j = 4 ∨ j = 5)) ∨ (77 ≤ c ∧ c < 79)) from by unfold STR at h; omega))
  refine j_pop (pc := 1117) dL_law_1117 rfl ?_
  refine j_aload_n (pc := 1118) dL_law_1118 rfl rfl ?_
  refine j_aload_n (pc := 1119) dL_law_1119 rfl rfl ?_
  refine j_iload_n (pc := 1120) dL_law_1120 rfl rfl ?_
  refine j_iconst (pc := 1121) dL_law_1121 ?_
  refine j_iadd (pc := 1122) dL_law_1122 ?_
  refine j_scrAt (pc := 1123) dL_law_1123 (by omega) (by omega) (by omega) ?_
  refine j_topV (show _ = v1 from ev1.symm) ?_
  refine j_callV (pc := 1124) (As := [vI v1]) (st := []) (c_X12_bolts hM v1 ⟨by omega, by omega⟩ σ2 hIσ2) mv_L_148 rfl rfl rfl (a_88 hM) dL_law_1124 ⟨Nat.le_of_ble_eq_true rfl, Nat.le_of_ble_eq_true rfl⟩ ⟨Nat.le_of_ble_eq_true rfl, Nat.le_of_ble_eq_true rfl⟩ rfl (Nat.le_of_ble_eq_true rfl) rfl (fun z7 σ8 hz7 => ?_)
  obtain ⟨r10, rfl, hr10, hIσ8, hGσ8, -⟩ := hz7
  refine j_st (st' := [vI r10]) rfl ?_
  have y11 : σ8 10 10 = τ 10 10 := ((hGσ8 10 10 (show ¬ ((10 = 88 ∧ (10 = 19 ∨ 10 = 23 ∨ 10 = 34)) ∨ (102 ≤ 10 ∧ 10 < 104)) from by omega))).trans (hGσ2 10 10 (show ¬ ((10 = 76 ∧ (10 = 1 ∨ 10 = 4 ∨ 10 = 5)) ∨ (77 ≤ 10 ∧ 10 < 79)) from by omega))
  have bσ8 : BY σ8 := BY_kept bσ2 (fun j => hGσ8 11 j (show ¬ ((11 = 88 ∧ (j = 19 ∨ j = 23 ∨ j = 34)) ∨ (102 ≤ 11 ∧ 11 < 104)) from by omega)) (fun j => hGσ8 98 j (show ¬ ((98 = 88 ∧ (j = 19 ∨ j = 23 ∨ j = 34)) ∨ (102 ≤ 98 ∧ 98 < 104)) from by omega)) (by omega)
  have mσ8 : mI σ8 := mI_kept mσ2 (fun j hj => hGσ8 89 j (show ¬ ((89 = 88 ∧ (j = 19 ∨ j = 23 ∨ j = 34)) ∨ (102 ≤ 89 ∧ 89 < 104)) from by omega)) (fun j => hGσ8 90 j (show ¬ ((90 = 88 ∧ (j = 19 ∨ j = 23 ∨ j = 34)) ∨ (102 ≤ 90 ∧ 90 < 104)) from by omega)) (hGσ8 91 0 (show ¬ ((91 = 88 ∧ (0 = 19 ∨ 0 = 23 ∨ 0 = 34)) ∨ (102 ≤ 91 ∧ 91 < 104)) from by omega)) hIσ2
  have sσ8 : SR σ8 := SR_kept sσ2 (fun c j h => hGσ8 c j (show ¬ ((c = 88 ∧ (j = 19 ∨ j = 23 ∨ j = 34)) ∨ (102 ≤ c ∧ c < 104)) from by omega)) (fun j => hGσ8 104 j (show ¬ ((104 = 88 ∧ (j = 19 ∨ j = 23 ∨ j = 34)) ∨ (102 ≤ 104 ∧ 104 < 104)) from by omega)) (fun j => hGσ8 105 j (show ¬ ((105 = 88 ∧ (j = 19 ∨ j = 23 ∨ j = 34)) ∨ (102 ≤ 105 ∧ 105 < 104)) from by omega))
  have tσ8 : TT σ8 := TT_kept tσ2 (fun c j h => hGσ8 c j (show ¬ ((c = 88 ∧ (j = 19 ∨ j = 23 ∨ j = 34)) ∨ (102 ≤ c ∧ c < 104)) from by omega)) (fun j h => hGσ8 89 j (show ¬ ((89 = 88 ∧ (j = 19 ∨ j = 23 ∨ j = 34)) ∨ (102 ≤ 89 ∧ 89 < 104)) from by omega))
  have stσ8 : ST σ8 := ST_F stσ2 (fun c j h => hGσ8 c j (show ¬ ((c = 88 ∧ (j = 19 ∨ j = 23 ∨ j = 34)) ∨ (102 ≤ c ∧ c < 104)) from by unfold STR at h; omega))
  refine j_pop (pc := 1127) dL_law_1127 rfl ?_
  refine j_goto (pc := 1128) (tgt := 1352) dL_law_1128 rfl ?_
  have y12 : σ8 10 10 = τ 10 10 := ((hGσ8 10 10 (show ¬ ((10 = 88 ∧ (10 = 19 ∨ 10 = 23 ∨ 10 = 34)) ∨ (102 ≤ 10 ∧ 10 < 104)) from by omega))).trans (hGσ2 10 10 (show ¬ ((10 = 76 ∧ (10 = 1 ∨ 10 = 4 ∨ 10 = 5)) ∨ (77 ≤ 10 ∧ 10 < 79)) from by omega))
  have y13 : σ8 88 12 = τ 88 12 := ((hGσ8 88 12 (show ¬ ((88 = 88 ∧ (12 = 19 ∨ 12 = 23 ∨ 12 = 34)) ∨ (102 ≤ 88 ∧ 88 < 104)) from by omega))).trans (hGσ2 88 12 (show ¬ ((88 = 76 ∧ (12 = 1 ∨ 12 = 4 ∨ 12 = 5)) ∨ (77 ≤ 88 ∧ 88 < 79)) from by omega))
  have f14 : (0 : Int) ≤ τ 88 12 ∧ τ 88 12 ≤ 400 := hIτ 88 12
  have y15 : σ8 0 13 = τ 0 13 := ((hGσ8 0 13 (show ¬ ((0 = 88 ∧ (13 = 19 ∨ 13 = 23 ∨ 13 = 34)) ∨ (102 ≤ 0 ∧ 0 < 104)) from by omega))).trans (hGσ2 0 13 (show ¬ ((0 = 76 ∧ (13 = 1 ∨ 13 = 4 ∨ 13 = 5)) ∨ (77 ≤ 0 ∧ 0 < 79)) from by omega))
  have f16 : (-2147483648 : Int) ≤ τ 0 13 ∧ τ 0 13 ≤ 2147483647 := hIτ 0 13
  have y17 : σ8 88 17 = τ 88 17 := ((hGσ8 88 17 (show ¬ ((88 = 88 ∧ (17 = 19 ∨ 17 = 23 ∨ 17 = 34)) ∨ (102 ≤ 88 ∧ 88 < 104)) from by omega))).trans (hGσ2 88 17 (show ¬ ((88 = 76 ∧ (17 = 1 ∨ 17 = 4 ∨ 17 = 5)) ∨ (77 ≤ 88 ∧ 88 < 79)) from by omega))
  have f18 : (0 : Int) ≤ τ 88 17 ∧ τ 88 17 ≤ 5 := hIτ 88 17
  have y19 : σ8 31 6 = τ 31 6 := ((hGσ8 31 6 (show ¬ ((31 = 88 ∧ (6 = 19 ∨ 6 = 23 ∨ 6 = 34)) ∨ (102 ≤ 31 ∧ 31 < 104)) from by omega))).trans (hGσ2 31 6 (show ¬ ((31 = 76 ∧ (6 = 1 ∨ 6 = 4 ∨ 6 = 5)) ∨ (77 ≤ 31 ∧ 31 < 79)) from by omega))
  have f20 : (0 : Int) ≤ τ 31 6 ∧ τ 31 6 ≤ 1 := hIτ 31 6
  have y21 : σ8 39 6 = τ 39 6 := ((hGσ8 39 6 (show ¬ ((39 = 88 ∧ (6 = 19 ∨ 6 = 23 ∨ 6 = 34)) ∨ (102 ≤ 39 ∧ 39 < 104)) from by omega))).trans (hGσ2 39 6 (show ¬ ((39 = 76 ∧ (6 = 1 ∨ 6 = 4 ∨ 6 = 5)) ∨ (77 ≤ 39 ∧ 39 < 79)) from by omega))
  have f22 : (0 : Int) ≤ τ 39 6 ∧ τ 39 6 ≤ 1 := hIτ 39 6
  have y23 : σ8 90 0 = τ 90 0 := ((hGσ8 90 0 (show ¬ ((90 = 88 ∧ (0 = 19 ∨ 0 = 23 ∨ 0 = 34)) ∨ (102 ≤ 90 ∧ 90 < 104)) from by omega))).trans (hGσ2 90 0 (show ¬ ((90 = 76 ∧ (0 = 1 ∨ 0 = 4 ∨ 0 = 5)) ∨ (77 ≤ 90 ∧ 90 < 79)) from by omega))
  have f24 : (0 : Int) ≤ τ 90 0 ∧ τ 90 0 ≤ 1 := hIτ 90 0
  have y25 : σ8 90 1 = τ 90 1 := ((hGσ8 90 1 (show ¬ ((90 = 88 ∧ (1 = 19 ∨ 1 = 23 ∨ 1 = 34)) ∨ (102 ≤ 90 ∧ 90 < 104)) from by omega))).trans (hGσ2 90 1 (show ¬ ((90 = 76 ∧ (1 = 1 ∨ 1 = 4 ∨ 1 = 5)) ∨ (77 ≤ 90 ∧ 90 < 79)) from by omega))
  have f26 : (0 : Int) ≤ τ 90 1 ∧ τ 90 1 ≤ 1 := hIτ 90 1
  exact K σ8 hIσ8 ⟨mσ8, by omega, sσ8, bσ8, by omega, by omega, by omega, tσ8, stσ8⟩
set_option maxHeartbeats 4000000 in
set_option maxRecDepth 100000 in
theorem w_case_31 {G : tw_G} (hX : tw_isX G) (hM : tw_isM G) {E : List Frame → Array Value → State → State → Prop} (hN : (gN G : Int) ≤ 2560) (i : Int) (hi : 0 ≤ i ∧ i + 5 ≤ (gN G : Int)) (τ : tw_M) (hIτ : tw_I τ) (hL : tw_LI τ) (K : ∀ τ' : tw_M, tw_I τ' → tw_LI τ' → tw_J G tw_ML E 1352 [(0, vR 300), (1, vR 0), (2, vR 88), (3, vI i)] [] τ') : tw_J G tw_ML E 1131 [(0, vR 300), (1, vR 0), (2, vR 88), (3, vI i)] [] τ := by
  obtain ⟨mτ, zτ, sτ, bτ, fτ, kτ0, kτ1, tτ, stτ⟩ := hL
  have g9 : (0 : Int) ≤ τ 10 10 ∧ τ 10 10 ≤ 400 := hIτ 10 10
  obtain ⟨v1, ev1⟩ : ∃ v : Int, v = (gxs G (i + 1).toNat).toInt := ⟨_, rfl⟩
  have hv1 : (-2147483648 : Int) ≤ v1 ∧ v1 ≤ 2147483647 := by rw [ev1]; exact i32_in _
  obtain ⟨v2, ev2⟩ : ∃ v : Int, v = (gxs G (i + 2).toNat).toInt := ⟨_, rfl⟩
  have hv2 : (-2147483648 : Int) ≤ v2 ∧ v2 ≤ 2147483647 := by rw [ev2]; exact i32_in _
  obtain ⟨v3, ev3⟩ : ∃ v : Int, v = (gxs G (i + 3).toNat).toInt := ⟨_, rfl⟩
  have hv3 : (-2147483648 : Int) ≤ v3 ∧ v3 ≤ 2147483647 := by rw [ev3]; exact i32_in _
  obtain ⟨v4, ev4⟩ : ∃ v : Int, v = (gxs G (i + 4).toNat).toInt := ⟨_, rfl⟩
  have hv4 : (-2147483648 : Int) ≤ v4 ∧ v4 ≤ 2147483647 := by rw [ev4]; exact i32_in _
  refine j_aload_n (pc := 1131) dL_law_1131 rfl rfl ?_
  refine j_aload_n (pc := 1132) dL_law_1132 rfl rfl ?_
  refine j_iload_n (pc := 1133) dL_law_1133 rfl rfl ?_
  refine j_iconst (pc := 1134) dL_law_1134 ?_
  refine j_iadd (pc := 1135) dL_law_1135 ?_
  refine j_scrAt (pc := 1136) dL_law_1136 (by omega) (by omega) (by omega) ?_
  refine j_topV (show _ = v1 from ev1.symm) ?_
  refine j_callV (pc := 1137) (As := [vI v1]) (st := []) (c_X11_image hX v1 ⟨by omega, by omega⟩ τ hIτ) mv_L_149 rfl rfl rfl (a_0 hX) dL_law_1137 ⟨Nat.le_of_ble_eq_true rfl, Nat.le_of_ble_eq_true rfl⟩ ⟨Nat.le_of_ble_eq_true rfl, Nat.le_of_ble_eq_true rfl⟩ rfl (Nat.le_of_ble_eq_true rfl) rfl (fun z1 σ2 hz1 => ?_)
  obtain ⟨r4, rfl, hr4, hIσ2, hGσ2, q3_0, q3_1, q3_2, q3_3, q3_4, q3_5, q3_6, q3_7, q3_8, q3_9⟩ := hz1
  replace q3_0 : (r4 = -1 ∧ ¬ (v1 = 0 ∨ v1 = 1) ∧ σ2 31 6 = τ 31 6 ∧ σ2 39 6 = τ 39 6) ∨ (v1 = 0 ∧ r4 = τ 31 6 ∧ σ2 31 6 = 1 ∧ σ2 39 6 = τ 39 6) ∨ (v1 = 1 ∧ r4 = τ 39 6 ∧ σ2 39 6 = 1 ∧ σ2 31 6 = τ 31 6) := q3_0
  replace q3_1 : (v1 = 0 ∧ σ2 37 0 = τ 29 0) ∨ (¬ v1 = 0 ∧ σ2 37 0 = τ 37 0) := q3_1
  replace q3_2 : (v1 = 0 ∧ σ2 38 0 = τ 30 0) ∨ (¬ v1 = 0 ∧ σ2 38 0 = τ 38 0) := q3_2
  replace q3_3 : (v1 = 0 ∧ σ2 37 1 = τ 29 1) ∨ (¬ v1 = 0 ∧ σ2 37 1 = τ 37 1) := q3_3
  replace q3_4 : (v1 = 0 ∧ σ2 38 1 = τ 30 1) ∨ (¬ v1 = 0 ∧ σ2 38 1 = τ 38 1) := q3_4
  replace q3_5 : (v1 = 1 ∧ σ2 45 0 = τ 29 0) ∨ (¬ v1 = 1 ∧ σ2 45 0 = τ 45 0) := q3_5
  replace q3_6 : (v1 = 1 ∧ σ2 46 0 = τ 30 0) ∨ (¬ v1 = 1 ∧ σ2 46 0 = τ 46 0) := q3_6
  replace q3_7 : (v1 = 1 ∧ σ2 45 1 = τ 29 1) ∨ (¬ v1 = 1 ∧ σ2 45 1 = τ 45 1) := q3_7
  replace q3_8 : (v1 = 1 ∧ σ2 46 1 = τ 30 1) ∨ (¬ v1 = 1 ∧ σ2 46 1 = τ 46 1) := q3_8
  replace q3_9 : ((v1 = 0 ∧ CPY 31 23 τ σ2 ∧ ∀ c j : Nat, 39 ≤ c → σ2 c j = τ c j) ∨ (v1 = 1 ∧ CPY 39 23 τ σ2 ∧ ∀ c j : Nat, c < 39 → σ2 c j = τ c j) ∨ (¬ (v1 = 0 ∨ v1 = 1) ∧ ∀ c j, σ2 c j = τ c j)) := q3_9
  refine j_st (st' := [vI r4]) rfl ?_
  have y5 : σ2 10 10 = τ 10 10 := (hGσ2 10 10 (show ¬ ((31 ≤ 10 ∧ 10 < 47)) from by omega))
  have f6 : (0 : Int) ≤ τ 10 10 ∧ τ 10 10 ≤ 400 := hIτ 10 10
  have bσ2 : BY σ2 := BY_kept bτ (fun j => hGσ2 11 j (show ¬ ((31 ≤ 11 ∧ 11 < 47)) from by omega)) (fun j => hGσ2 98 j (show ¬ ((31 ≤ 98 ∧ 98 < 47)) from by omega)) (by omega)
  have mσ2 : mI σ2 := mI_kept mτ (fun j hj => hGσ2 89 j (show ¬ ((31 ≤ 89 ∧ 89 < 47)) from by omega)) (fun j => hGσ2 90 j (show ¬ ((31 ≤ 90 ∧ 90 < 47)) from by omega)) (hGσ2 91 0 (show ¬ ((31 ≤ 91 ∧ 91 < 47)) from by omega)) hIτ
  have sσ2 : SR σ2 := SR_kept sτ (fun c j h => hGσ2 c j (show ¬ ((31 ≤ c ∧ c < 47)) from by omega)) (fun j => hGσ2 104 j (show ¬ ((31 ≤ 104 ∧ 104 < 47)) from by omega)) (fun j => hGσ2 105 j (show ¬ ((31 ≤ 105 ∧ 105 < 47)) from by omega))
  refine j_pop (pc := 1140) dL_law_1140 rfl ?_
  refine j_aload_n (pc := 1141) dL_law_1141 rfl rfl ?_
  refine j_aload_n (pc := 1142) dL_law_1142 rfl rfl ?_
  refine j_iload_n (pc := 1143) dL_law_1143 rfl rfl ?_
  refine j_iconst (pc := 1144) dL_law_1144 ?_
  refine j_iadd (pc := 1145) dL_law_1145 ?_
  refine j_scrAt (pc := 1146) dL_law_1146 (by omega) (by omega) (by omega) ?_
  refine j_topV (show _ = v1 from ev1.symm) ?_
  refine j_callV (pc := 1147) (As := [vI v1]) (st := []) (c_X12_image hM v1 ⟨by omega, by omega⟩ σ2 hIσ2 mσ2) mv_L_152 rfl rfl rfl (a_88 hM) dL_law_1147 ⟨Nat.le_of_ble_eq_true rfl, Nat.le_of_ble_eq_true rfl⟩ ⟨Nat.le_of_ble_eq_true rfl, Nat.le_of_ble_eq_true rfl⟩ rfl (Nat.le_of_ble_eq_true rfl) rfl (fun z7 σ8 hz7 => ?_)
  obtain ⟨r10, rfl, hr10, hIσ8, hGσ8, q9_0, q9_1, q9_2, q9_3, q9_4, q9_5, q9_6, q9_7, q9_8, q9_9, q9_10⟩ := hz7
  replace q9_0 : mI σ8 := q9_0
  replace q9_1 : (r10 = -1 ∧ ¬ (v1 = 0 ∨ v1 = 1) ∧ σ8 90 0 = σ2 90 0 ∧ σ8 90 1 = σ2 90 1) ∨ (v1 = 0 ∧ r10 = σ2 90 0 ∧ σ8 90 0 = 1 ∧ σ8 90 1 = σ2 90 1) ∨ (v1 = 1 ∧ r10 = σ2 90 1 ∧ σ8 90 1 = 1 ∧ σ8 90 0 = σ2 90 0) := q9_1
  have y11 : σ2 90 0 = τ 90 0 := (hGσ2 90 0 (show ¬ ((31 ≤ 90 ∧ 90 < 47)) from by omega))
  have f12 : (0 : Int) ≤ τ 90 0 ∧ τ 90 0 ≤ 1 := hIτ 90 0
  have y13 : σ2 90 1 = τ 90 1 := (hGσ2 90 1 (show ¬ ((31 ≤ 90 ∧ 90 < 47)) from by omega))
  have f14 : (0 : Int) ≤ τ 90 1 ∧ τ 90 1 ≤ 1 := hIτ 90 1
  replace q9_2 : (v1 = 0 ∧ σ8 89 193 = σ2 89 93) ∨ (¬ v1 = 0 ∧ σ8 89 193 = σ2 89 193) := q9_2
  have y15 : σ2 89 93 = τ 89 93 := (hGσ2 89 93 (show ¬ ((31 ≤ 89 ∧ 89 < 47)) from by omega))
  have f16 : (0 : Int) ≤ τ 89 93 ∧ τ 89 93 ≤ 999 := hIτ 89 93
  have y17 : σ2 89 193 = τ 89 193 := (hGσ2 89 193 (show ¬ ((31 ≤ 89 ∧ 89 < 47)) from by omega))
  have f18 : (0 : Int) ≤ τ 89 193 ∧ τ 89 193 ≤ 999 := hIτ 89 193
  replace q9_3 : (v1 = 0 ∧ σ8 89 194 = σ2 89 94) ∨ (¬ v1 = 0 ∧ σ8 89 194 = σ2 89 194) := q9_3
  have y19 : σ2 89 94 = τ 89 94 := (hGσ2 89 94 (show ¬ ((31 ≤ 89 ∧ 89 < 47)) from by omega))
  have f20 : (-2147483648 : Int) ≤ τ 89 94 ∧ τ 89 94 ≤ 2147483647 := hIτ 89 94
  have y21 : σ2 89 194 = τ 89 194 := (hGσ2 89 194 (show ¬ ((31 ≤ 89 ∧ 89 < 47)) from by omega))
  have f22 : (-2147483648 : Int) ≤ τ 89 194 ∧ τ 89 194 ≤ 2147483647 := hIτ 89 194
  replace q9_4 : (v1 = 0 ∧ σ8 89 195 = σ2 89 95) ∨ (¬ v1 = 0 ∧ σ8 89 195 = σ2 89 195) := q9_4
  have y23 : σ2 89 95 = τ 89 95 := (hGσ2 89 95 (show ¬ ((31 ≤ 89 ∧ 89 < 47)) from by omega))
  have f24 : (0 : Int) ≤ τ 89 95 ∧ τ 89 95 ≤ 999 := hIτ 89 95
  have y25 : σ2 89 195 = τ 89 195 := (hGσ2 89 195 (show ¬ ((31 ≤ 89 ∧ 89 < 47)) from by omega))
  have f26 : (0 : Int) ≤ τ 89 195 ∧ τ 89 195 ≤ 999 := hIτ 89 195
  replace q9_5 : (v1 = 0 ∧ σ8 89 196 = σ2 89 96) ∨ (¬ v1 = 0 ∧ σ8 89 196 = σ2 89 196) := q9_5
  have y27 : σ2 89 96 = τ 89 96 := (hGσ2 89 96 (show ¬ ((31 ≤ 89 ∧ 89 < 47)) from by omega))
  have f28 : (-2147483648 : Int) ≤ τ 89 96 ∧ τ 89 96 ≤ 2147483647 := hIτ 89 96
  have y29 : σ2 89 196 = τ 89 196 := (hGσ2 89 196 (show ¬ ((31 ≤ 89 ∧ 89 < 47)) from by omega))
  have f30 : (-2147483648 : Int) ≤ τ 89 196 ∧ τ 89 196 ≤ 2147483647 := hIτ 89 196
  replace q9_6 : (v1 = 1 ∧ σ8 89 293 = σ2 89 93) ∨ (¬ v1 = 1 ∧ σ8 89 293 = σ2 89 293) := q9_6
  have y31 : σ2 89 93 = τ 89 93 := (hGσ2 89 93 (show ¬ ((31 ≤ 89 ∧ 89 < 47)) from by omega))
  have y32 : σ2 89 293 = τ 89 293 := (hGσ2 89 293 (show ¬ ((31 ≤ 89 ∧ 89 < 47)) from by omega))
  have f33 : (0 : Int) ≤ τ 89 293 ∧ τ 89 293 ≤ 999 := hIτ 89 293
  replace q9_7 : (v1 = 1 ∧ σ8 89 294 = σ2 89 94) ∨ (¬ v1 = 1 ∧ σ8 89 294 = σ2 89 294) := q9_7
  have y34 : σ2 89 94 = τ 89 94 := (hGσ2 89 94 (show ¬ ((31 ≤ 89 ∧ 89 < 47)) from by omega))
  have y35 : σ2 89 294 = τ 89 294 := (hGσ2 89 294 (show ¬ ((31 ≤ 89 ∧ 89 < 47)) from by omega))
  have f36 : (-2147483648 : Int) ≤ τ 89 294 ∧ τ 89 294 ≤ 2147483647 := hIτ 89 294
  replace q9_8 : (v1 = 1 ∧ σ8 89 295 = σ2 89 95) ∨ (¬ v1 = 1 ∧ σ8 89 295 = σ2 89 295) := q9_8
  have y37 : σ2 89 95 = τ 89 95 := (hGσ2 89 95 (show ¬ ((31 ≤ 89 ∧ 89 < 47)) from by omega))
  have y38 : σ2 89 295 = τ 89 295 := (hGσ2 89 295 (show ¬ ((31 ≤ 89 ∧ 89 < 47)) from by omega))
  have f39 : (0 : Int) ≤ τ 89 295 ∧ τ 89 295 ≤ 999 := hIτ 89 295
  replace q9_9 : (v1 = 1 ∧ σ8 89 296 = σ2 89 96) ∨ (¬ v1 = 1 ∧ σ8 89 296 = σ2 89 296) := q9_9
  have y40 : σ2 89 96 = τ 89 96 := (hGσ2 89 96 (show ¬ ((31 ≤ 89 ∧ 89 < 47)) from by omega))
  have y41 : σ2 89 296 = τ 89 296 := (hGσ2 89 296 (show ¬ ((31 ≤ 89 ∧ 89 < 47)) from by omega))
  have f42 : (-2147483648 : Int) ≤ τ 89 296 ∧ τ 89 296 ≤ 2147483647 := hIτ 89 296
  replace q9_10 : ((¬ (v1 = 0 ∨ v1 = 1) ∧ ∀ c j, σ8 c j = σ2 c j) ∨ ((v1 = 0 ∨ v1 = 1) ∧ (∀ j : Int, 0 ≤ j → j < 97 → σ8 89 (100 + 100 * v1 + j).toNat = σ2 89 j.toNat) ∧ σ8 89 (197 + 100 * v1).toNat = σ2 91 5 ∧ σ8 89 (198 + 100 * v1).toNat = σ2 91 6 ∧ (∀ j : Nat, (j < 97 ∨ (100 ≤ j ∧ ((j : Int) < 100 + 100 * v1 ∨ 200 + 100 * v1 ≤ (j : Int)))) → σ8 89 j = σ2 89 j))) := q9_10
  have y43 : σ2 91 5 = τ 91 5 := (hGσ2 91 5 (show ¬ ((31 ≤ 91 ∧ 91 < 47)) from by omega))
  have f44 : (-2147483648 : Int) ≤ τ 91 5 ∧ τ 91 5 ≤ 2147483647 := hIτ 91 5
  have y45 : σ2 91 6 = τ 91 6 := (hGσ2 91 6 (show ¬ ((31 ≤ 91 ∧ 91 < 47)) from by omega))
  have f46 : (-2147483648 : Int) ≤ τ 91 6 ∧ τ 91 6 ≤ 2147483647 := hIτ 91 6
  refine j_st (st' := [vI r10]) rfl ?_
  have y47 : σ8 10 10 = τ 10 10 := ((hGσ8 10 10 (show ¬ ((10 = 90) ∨ (10 = 89 ∧ (10 = 97 ∨ 10 = 98 ∨ (100 ≤ 10 ∧ 10 < 300)))) from by omega))).trans (hGσ2 10 10 (show ¬ ((31 ≤ 10 ∧ 10 < 47)) from by omega))
  have bσ8 : BY σ8 := BY_kept bσ2 (fun j => hGσ8 11 j (show ¬ ((11 = 90) ∨ (11 = 89 ∧ (j = 97 ∨ j = 98 ∨ (100 ≤ j ∧ j < 300)))) from by omega)) (fun j => hGσ8 98 j (show ¬ ((98 = 90) ∨ (98 = 89 ∧ (j = 97 ∨ j = 98 ∨ (100 ≤ j ∧ j < 300)))) from by omega)) (by omega)
  have mσ8 : mI σ8 := q9_0
  have sσ8 : SR σ8 := SR_kept sσ2 (fun c j h => hGσ8 c j (show ¬ ((c = 90) ∨ (c = 89 ∧ (j = 97 ∨ j = 98 ∨ (100 ≤ j ∧ j < 300)))) from by omega)) (fun j => hGσ8 104 j (show ¬ ((104 = 90) ∨ (104 = 89 ∧ (j = 97 ∨ j = 98 ∨ (100 ≤ j ∧ j < 300)))) from by omega)) (fun j => hGσ8 105 j (show ¬ ((105 = 90) ∨ (105 = 89 ∧ (j = 97 ∨ j = 98 ∨ (100 ≤ j ∧ j < 300)))) from by omega))
  have ht9 : (1 : Int) ≤ τ 91 0 ∧ τ 91 0 ≤ 40 := hIτ 91 0
  have st9 := ST_image stτ q3_9 q9_10 (fun c j h => hGσ2 c j (show ¬ ((31 ≤ c ∧ c < 47)) from by omega)) (fun c j h1 h2 => hGσ8 c j (show ¬ ((c = 90) ∨ (c = 89 ∧ (j = 97 ∨ j = 98 ∨ (100 ≤ j ∧ j < 300)))) from by omega))
  clear q3_9 q9_10
  refine j_pop (pc := 1150) dL_law_1150 rfl ?_
  refine j_goto (pc := 1151) (tgt := 1352) dL_law_1151 rfl ?_
  have y48 : σ8 10 10 = τ 10 10 := ((hGσ8 10 10 (show ¬ ((10 = 90) ∨ (10 = 89 ∧ (10 = 97 ∨ 10 = 98 ∨ (100 ≤ 10 ∧ 10 < 300)))) from by omega))).trans (hGσ2 10 10 (show ¬ ((31 ≤ 10 ∧ 10 < 47)) from by omega))
  have y49 : σ8 88 12 = τ 88 12 := ((hGσ8 88 12 (show ¬ ((88 = 90) ∨ (88 = 89 ∧ (12 = 97 ∨ 12 = 98 ∨ (100 ≤ 12 ∧ 12 < 300)))) from by omega))).trans (hGσ2 88 12 (show ¬ ((31 ≤ 88 ∧ 88 < 47)) from by omega))
  have f50 : (0 : Int) ≤ τ 88 12 ∧ τ 88 12 ≤ 400 := hIτ 88 12
  have y51 : σ8 0 13 = τ 0 13 := ((hGσ8 0 13 (show ¬ ((0 = 90) ∨ (0 = 89 ∧ (13 = 97 ∨ 13 = 98 ∨ (100 ≤ 13 ∧ 13 < 300)))) from by omega))).trans (hGσ2 0 13 (show ¬ ((31 ≤ 0 ∧ 0 < 47)) from by omega))
  have f52 : (-2147483648 : Int) ≤ τ 0 13 ∧ τ 0 13 ≤ 2147483647 := hIτ 0 13
  have y53 : σ8 88 17 = τ 88 17 := ((hGσ8 88 17 (show ¬ ((88 = 90) ∨ (88 = 89 ∧ (17 = 97 ∨ 17 = 98 ∨ (100 ≤ 17 ∧ 17 < 300)))) from by omega))).trans (hGσ2 88 17 (show ¬ ((31 ≤ 88 ∧ 88 < 47)) from by omega))
  have f54 : (0 : Int) ≤ τ 88 17 ∧ τ 88 17 ≤ 5 := hIτ 88 17
  have y55 : σ8 31 6 = σ2 31 6 := (hGσ8 31 6 (show ¬ ((31 = 90) ∨ (31 = 89 ∧ (6 = 97 ∨ 6 = 98 ∨ (100 ≤ 6 ∧ 6 < 300)))) from by omega))
  have f56 : (0 : Int) ≤ σ2 31 6 ∧ σ2 31 6 ≤ 1 := hIσ2 31 6
  have y57 : σ8 39 6 = σ2 39 6 := (hGσ8 39 6 (show ¬ ((39 = 90) ∨ (39 = 89 ∧ (6 = 97 ∨ 6 = 98 ∨ (100 ≤ 6 ∧ 6 < 300)))) from by omega))
  have f58 : (0 : Int) ≤ σ2 39 6 ∧ σ2 39 6 ≤ 1 := hIσ2 39 6
  obtain ⟨t0, t1, t2, t3, t4, t5, t6, t7, t8, t9, t10, t11, t12, t13, t14, t15, t16, t17⟩ := tτ
  have y59 : σ8 29 0 = τ 29 0 := ((hGσ8 29 0 (show ¬ ((29 = 90) ∨ (29 = 89 ∧ (0 = 97 ∨ 0 = 98 ∨ (100 ≤ 0 ∧ 0 < 300)))) from by omega))).trans (hGσ2 29 0 (show ¬ ((31 ≤ 29 ∧ 29 < 47)) from by omega))
  have f60 : (0 : Int) ≤ τ 29 0 ∧ τ 29 0 ≤ 999 := hIτ 29 0
  have y61 : σ8 30 0 = τ 30 0 := ((hGσ8 30 0 (show ¬ ((30 = 90) ∨ (30 = 89 ∧ (0 = 97 ∨ 0 = 98 ∨ (100 ≤ 0 ∧ 0 < 300)))) from by omega))).trans (hGσ2 30 0 (show ¬ ((31 ≤ 30 ∧ 30 < 47)) from by omega))
  have f62 : (-2147483648 : Int) ≤ τ 30 0 ∧ τ 30 0 ≤ 2147483647 := hIτ 30 0
  have y63 : σ8 29 1 = τ 29 1 := ((hGσ8 29 1 (show ¬ ((29 = 90) ∨ (29 = 89 ∧ (1 = 97 ∨ 1 = 98 ∨ (100 ≤ 1 ∧ 1 < 300)))) from by omega))).trans (hGσ2 29 1 (show ¬ ((31 ≤ 29 ∧ 29 < 47)) from by omega))
  have f64 : (0 : Int) ≤ τ 29 1 ∧ τ 29 1 ≤ 999 := hIτ 29 1
  have y65 : σ8 30 1 = τ 30 1 := ((hGσ8 30 1 (show ¬ ((30 = 90) ∨ (30 = 89 ∧ (1 = 97 ∨ 1 = 98 ∨ (100 ≤ 1 ∧ 1 < 300)))) from by omega))).trans (hGσ2 30 1 (show ¬ ((31 ≤ 30 ∧ 30 < 47)) from by omega))
  have f66 : (-2147483648 : Int) ≤ τ 30 1 ∧ τ 30 1 ≤ 2147483647 := hIτ 30 1
  have y67 : σ8 37 0 = σ2 37 0 := (hGσ8 37 0 (show ¬ ((37 = 90) ∨ (37 = 89 ∧ (0 = 97 ∨ 0 = 98 ∨ (100 ≤ 0 ∧ 0 < 300)))) from by omega))
  have f68 : (0 : Int) ≤ σ2 37 0 ∧ σ2 37 0 ≤ 999 := hIσ2 37 0
  have y69 : σ8 38 0 = σ2 38 0 := (hGσ8 38 0 (show ¬ ((38 = 90) ∨ (38 = 89 ∧ (0 = 97 ∨ 0 = 98 ∨ (100 ≤ 0 ∧ 0 < 300)))) from by omega))
  have f70 : (-2147483648 : Int) ≤ σ2 38 0 ∧ σ2 38 0 ≤ 2147483647 := hIσ2 38 0
  have y71 : σ8 37 1 = σ2 37 1 := (hGσ8 37 1 (show ¬ ((37 = 90) ∨ (37 = 89 ∧ (1 = 97 ∨ 1 = 98 ∨ (100 ≤ 1 ∧ 1 < 300)))) from by omega))
  have f72 : (0 : Int) ≤ σ2 37 1 ∧ σ2 37 1 ≤ 999 := hIσ2 37 1
  have y73 : σ8 38 1 = σ2 38 1 := (hGσ8 38 1 (show ¬ ((38 = 90) ∨ (38 = 89 ∧ (1 = 97 ∨ 1 = 98 ∨ (100 ≤ 1 ∧ 1 < 300)))) from by omega))
  have f74 : (-2147483648 : Int) ≤ σ2 38 1 ∧ σ2 38 1 ≤ 2147483647 := hIσ2 38 1
  have y75 : σ8 45 0 = σ2 45 0 := (hGσ8 45 0 (show ¬ ((45 = 90) ∨ (45 = 89 ∧ (0 = 97 ∨ 0 = 98 ∨ (100 ≤ 0 ∧ 0 < 300)))) from by omega))
  have f76 : (0 : Int) ≤ σ2 45 0 ∧ σ2 45 0 ≤ 999 := hIσ2 45 0
  have y77 : σ8 46 0 = σ2 46 0 := (hGσ8 46 0 (show ¬ ((46 = 90) ∨ (46 = 89 ∧ (0 = 97 ∨ 0 = 98 ∨ (100 ≤ 0 ∧ 0 < 300)))) from by omega))
  have f78 : (-2147483648 : Int) ≤ σ2 46 0 ∧ σ2 46 0 ≤ 2147483647 := hIσ2 46 0
  have y79 : σ8 45 1 = σ2 45 1 := (hGσ8 45 1 (show ¬ ((45 = 90) ∨ (45 = 89 ∧ (1 = 97 ∨ 1 = 98 ∨ (100 ≤ 1 ∧ 1 < 300)))) from by omega))
  have f80 : (0 : Int) ≤ σ2 45 1 ∧ σ2 45 1 ≤ 999 := hIσ2 45 1
  have y81 : σ8 46 1 = σ2 46 1 := (hGσ8 46 1 (show ¬ ((46 = 90) ∨ (46 = 89 ∧ (1 = 97 ∨ 1 = 98 ∨ (100 ≤ 1 ∧ 1 < 300)))) from by omega))
  have f82 : (-2147483648 : Int) ≤ σ2 46 1 ∧ σ2 46 1 ≤ 2147483647 := hIσ2 46 1
  have u93 : σ8 89 93 = τ 89 93 := ((hGσ8 89 93 (show ¬ ((89 = 90) ∨ (89 = 89 ∧ (93 = 97 ∨ 93 = 98 ∨ (100 ≤ 93 ∧ 93 < 300)))) from by omega))).trans (hGσ2 89 93 (show ¬ ((31 ≤ 89 ∧ 89 < 47)) from by omega))
  have u94 : σ8 89 94 = τ 89 94 := ((hGσ8 89 94 (show ¬ ((89 = 90) ∨ (89 = 89 ∧ (94 = 97 ∨ 94 = 98 ∨ (100 ≤ 94 ∧ 94 < 300)))) from by omega))).trans (hGσ2 89 94 (show ¬ ((31 ≤ 89 ∧ 89 < 47)) from by omega))
  have u95 : σ8 89 95 = τ 89 95 := ((hGσ8 89 95 (show ¬ ((89 = 90) ∨ (89 = 89 ∧ (95 = 97 ∨ 95 = 98 ∨ (100 ≤ 95 ∧ 95 < 300)))) from by omega))).trans (hGσ2 89 95 (show ¬ ((31 ≤ 89 ∧ 89 < 47)) from by omega))
  have u96 : σ8 89 96 = τ 89 96 := ((hGσ8 89 96 (show ¬ ((89 = 90) ∨ (89 = 89 ∧ (96 = 97 ∨ 96 = 98 ∨ (100 ≤ 96 ∧ 96 < 300)))) from by omega))).trans (hGσ2 89 96 (show ¬ ((31 ≤ 89 ∧ 89 < 47)) from by omega))
  exact K σ8 hIσ8 ⟨mσ8, by omega, sσ8, bσ8, by omega, by omega, by omega, ⟨by clear t1 t2 t3 t5 t6 t7 t9 t10 t11 t12 t13 t14 t15 t16 t17 q3_0 q3_1 q3_2 q3_3 q3_4 q3_5 q3_6 q3_7 q3_8 q9_1 q9_2 q9_3 q9_4 q9_5 q9_6 q9_7 q9_8 q9_9; omega, by clear t0 t2 t3 t4 t6 t7 t8 t10 t11 t12 t13 t14 t15 t16 t17 q3_0 q3_1 q3_2 q3_3 q3_4 q3_5 q3_6 q3_7 q3_8 q9_1 q9_2 q9_3 q9_4 q9_5 q9_6 q9_7 q9_8 q9_9; omega, by clear t0 t1 t3 t4 t5 t7 t8 t9 t11 t12 t13 t14 t15 t16 t17 q3_0 q3_1 q3_2 q3_3 q3_4 q3_5 q3_6 q3_7 q3_8 q9_1 q9_2 q9_3 q9_4 q9_5 q9_6 q9_7 q9_8 q9_9; omega, by clear t0 t1 t2 t4 t5 t6 t8 t9 t10 t12 t13 t14 t15 t16 t17 q3_0 q3_1 q3_2 q3_3 q3_4 q3_5 q3_6 q3_7 q3_8 q9_1 q9_2 q9_3 q9_4 q9_5 q9_6 q9_7 q9_8 q9_9; omega, by clear t1 t2 t3 t5 t6 t7 t9 t10 t11 t12 t13 t14 t15 t16 t17 q3_0 q3_2 q3_3 q3_4 q3_5 q3_6 q3_7 q3_8 q9_1 q9_3 q9_4 q9_5 q9_6 q9_7 q9_8 q9_9; omega, by clear t0 t2 t3 t4 t6 t7 t8 t10 t11 t12 t13 t14 t15 t16 t17 q3_0 q3_1 q3_3 q3_4 q3_5 q3_6 q3_7 q3_8 q9_1 q9_2 q9_4 q9_5 q9_6 q9_7 q9_8 q9_9; omega, by clear t0 t1 t3 t4 t5 t7 t8 t9 t11 t12 t13 t14 t15 t16 t17 q3_0 q3_1 q3_2 q3_4 q3_5 q3_6 q3_7 q3_8 q9_1 q9_2 q9_3 q9_5 q9_6 q9_7 q9_8 q9_9; omega, by clear t0 t1 t2 t4 t5 t6 t8 t9 t10 t12 t13 t14 t15 t16 t17 q3_0 q3_1 q3_2 q3_3 q3_5 q3_6 q3_7 q3_8 q9_1 q9_2 q9_3 q9_4 q9_6 q9_7 q9_8 q9_9; omega, by clear t1 t2 t3 t5 t6 t7 t9 t10 t11 t12 t13 t14 t15 t16 t17 q3_0 q3_1 q3_2 q3_3 q3_4 q3_6 q3_7 q3_8 q9_1 q9_2 q9_3 q9_4 q9_5 q9_7 q9_8 q9_9; omega, by clear t0 t2 t3 t4 t6 t7 t8 t10 t11 t12 t13 t14 t15 t16 t17 q3_0 q3_1 q3_2 q3_3 q3_4 q3_5 q3_7 q3_8 q9_1 q9_2 q9_3 q9_4 q9_5 q9_6 q9_8 q9_9; omega, by clear t0 t1 t3 t4 t5 t7 t8 t9 t11 t12 t13 t14 t15 t16 t17 q3_0 q3_1 q3_2 q3_3 q3_4 q3_5 q3_6 q3_8 q9_1 q9_2 q9_3 q9_4 q9_5 q9_6 q9_7 q9_9; omega, by clear t0 t1 t2 t4 t5 t6 t8 t9 t10 t12 t13 t14 t15 t16 t17 q3_0 q3_1 q3_2 q3_3 q3_4 q3_5 q3_6 q3_7 q9_1 q9_2 q9_3 q9_4 q9_5 q9_6 q9_7 q9_8; omega, by clear t2 t3 t6 t7 t10 t11 t13 t15 t17 q3_0 q3_1 q3_2 q3_3 q3_4 q3_5 q3_6 q3_7 q3_8 q9_1 q9_2 q9_3 q9_4 q9_5 q9_6 q9_7 q9_8 q9_9; omega, by clear t0 t1 t4 t5 t8 t9 t12 t14 t16 q3_0 q3_1 q3_2 q3_3 q3_4 q3_5 q3_6 q3_7 q3_8 q9_1 q9_2 q9_3 q9_4 q9_5 q9_6 q9_7 q9_8 q9_9; omega, by clear t2 t3 t6 t7 t10 t11 t13 t15 t17 q3_0 q3_3 q3_4 q3_5 q3_6 q3_7 q3_8 q9_1 q9_4 q9_5 q9_6 q9_7 q9_8 q9_9; omega, by clear t0 t1 t4 t5 t8 t9 t12 t14 t16 q3_0 q3_1 q3_2 q3_5 q3_6 q3_7 q3_8 q9_1 q9_2 q9_3 q9_6 q9_7 q9_8 q9_9; omega, by clear t2 t3 t6 t7 t10 t11 t13 t15 t17 q3_0 q3_1 q3_2 q3_3 q3_4 q3_7 q3_8 q9_1 q9_2 q9_3 q9_4 q9_5 q9_8 q9_9; omega, by clear t0 t1 t4 t5 t8 t9 t12 t14 t16 q3_0 q3_1 q3_2 q3_3 q3_4 q3_5 q3_6 q9_1 q9_2 q9_3 q9_4 q9_5 q9_6 q9_7; omega⟩, st9⟩
set_option maxHeartbeats 4000000 in
set_option maxRecDepth 100000 in
theorem w_case_32 {G : tw_G} (hX : tw_isX G) (hM : tw_isM G) {E : List Frame → Array Value → State → State → Prop} (hN : (gN G : Int) ≤ 2560) (i : Int) (hi : 0 ≤ i ∧ i + 5 ≤ (gN G : Int)) (τ : tw_M) (hIτ : tw_I τ) (hL : tw_LI τ) (K : ∀ τ' : tw_M, tw_I τ' → tw_LI τ' → tw_J G tw_ML E 1352 [(0, vR 300), (1, vR 0), (2, vR 88), (3, vI i)] [] τ') : tw_J G tw_ML E 1154 [(0, vR 300), (1, vR 0), (2, vR 88), (3, vI i)] [] τ := by
  obtain ⟨mτ, zτ, sτ, bτ, fτ, kτ0, kτ1, tτ, stτ⟩ := hL
  have g9 : (0 : Int) ≤ τ 10 10 ∧ τ 10 10 ≤ 400 := hIτ 10 10
  obtain ⟨v1, ev1⟩ : ∃ v : Int, v = (gxs G (i + 1).toNat).toInt := ⟨_, rfl⟩
  have hv1 : (-2147483648 : Int) ≤ v1 ∧ v1 ≤ 2147483647 := by rw [ev1]; exact i32_in _
  obtain ⟨v2, ev2⟩ : ∃ v : Int, v = (gxs G (i + 2).toNat).toInt := ⟨_, rfl⟩
  have hv2 : (-2147483648 : Int) ≤ v2 ∧ v2 ≤ 2147483647 := by rw [ev2]; exact i32_in _
  obtain ⟨v3, ev3⟩ : ∃ v : Int, v = (gxs G (i + 3).toNat).toInt := ⟨_, rfl⟩
  have hv3 : (-2147483648 : Int) ≤ v3 ∧ v3 ≤ 2147483647 := by rw [ev3]; exact i32_in _
  obtain ⟨v4, ev4⟩ : ∃ v : Int, v = (gxs G (i + 4).toNat).toInt := ⟨_, rfl⟩
  have hv4 : (-2147483648 : Int) ≤ v4 ∧ v4 ≤ 2147483647 := by rw [ev4]; exact i32_in _
  refine j_aload_n (pc := 1154) dL_law_1154 rfl rfl ?_
  refine j_aload_n (pc := 1155) dL_law_1155 rfl rfl ?_
  refine j_iload_n (pc := 1156) dL_law_1156 rfl rfl ?_
  refine j_iconst (pc := 1157) dL_law_1157 ?_
  refine j_iadd (pc := 1158) dL_law_1158 ?_
  refine j_scrAt (pc := 1159) dL_law_1159 (by omega) (by omega) (by omega) ?_
  refine j_topV (show _ = v1 from ev1.symm) ?_
  refine j_callV (pc := 1160) (As := [vI v1]) (st := []) (c_X11_back hX v1 ⟨by omega, by omega⟩ τ hIτ) mv_L_153 rfl rfl rfl (a_0 hX) dL_law_1160 ⟨Nat.le_of_ble_eq_true rfl, Nat.le_of_ble_eq_true rfl⟩ ⟨Nat.le_of_ble_eq_true rfl, Nat.le_of_ble_eq_true rfl⟩ rfl (Nat.le_of_ble_eq_true rfl) rfl (fun z1 σ2 hz1 => ?_)
  obtain ⟨r4, rfl, hr4, hIσ2, hGσ2, q3_0, q3_1, q3_2, q3_3, q3_4⟩ := hz1
  replace q3_0 : (σ2 29 0 = τ 29 0 ∧ (¬ (v1 = 0 ∨ v1 = 1) ∨ (v1 = 0 ∧ τ 31 6 = 0) ∨ (v1 = 1 ∧ τ 39 6 = 0))) ∨ (v1 = 0 ∧ ¬ τ 31 6 = 0 ∧ σ2 29 0 = τ 37 0) ∨ (v1 = 1 ∧ ¬ τ 39 6 = 0 ∧ σ2 29 0 = τ 45 0) := q3_0
  replace q3_1 : (σ2 30 0 = τ 30 0 ∧ (¬ (v1 = 0 ∨ v1 = 1) ∨ (v1 = 0 ∧ τ 31 6 = 0) ∨ (v1 = 1 ∧ τ 39 6 = 0))) ∨ (v1 = 0 ∧ ¬ τ 31 6 = 0 ∧ σ2 30 0 = τ 38 0) ∨ (v1 = 1 ∧ ¬ τ 39 6 = 0 ∧ σ2 30 0 = τ 46 0) := q3_1
  replace q3_2 : (σ2 29 1 = τ 29 1 ∧ (¬ (v1 = 0 ∨ v1 = 1) ∨ (v1 = 0 ∧ τ 31 6 = 0) ∨ (v1 = 1 ∧ τ 39 6 = 0))) ∨ (v1 = 0 ∧ ¬ τ 31 6 = 0 ∧ σ2 29 1 = τ 37 1) ∨ (v1 = 1 ∧ ¬ τ 39 6 = 0 ∧ σ2 29 1 = τ 45 1) := q3_2
  replace q3_3 : (σ2 30 1 = τ 30 1 ∧ (¬ (v1 = 0 ∨ v1 = 1) ∨ (v1 = 0 ∧ τ 31 6 = 0) ∨ (v1 = 1 ∧ τ 39 6 = 0))) ∨ (v1 = 0 ∧ ¬ τ 31 6 = 0 ∧ σ2 30 1 = τ 38 1) ∨ (v1 = 1 ∧ ¬ τ 39 6 = 0 ∧ σ2 30 1 = τ 46 1) := q3_3
  replace q3_4 : ((r4 = -1 ∧ ¬ (v1 = 0 ∨ v1 = 1) ∧ ∀ c j, σ2 c j = τ c j) ∨ (r4 = -2 ∧ ((v1 = 0 ∧ τ 31 6 = 0) ∨ (v1 = 1 ∧ τ 39 6 = 0)) ∧ ∀ c j, σ2 c j = τ c j) ∨ (v1 = 0 ∧ ¬ τ 31 6 = 0 ∧ CPY 23 31 τ σ2 ∧ r4 = σ2 24 0) ∨ (v1 = 1 ∧ ¬ τ 39 6 = 0 ∧ CPY 23 39 τ σ2 ∧ r4 = σ2 24 0)) := q3_4
  refine j_st (st' := [vI r4]) rfl ?_
  have y5 : σ2 10 10 = τ 10 10 := (hGσ2 10 10 (show ¬ ((23 ≤ 10 ∧ 10 < 31)) from by omega))
  have f6 : (0 : Int) ≤ τ 10 10 ∧ τ 10 10 ≤ 400 := hIτ 10 10
  have bσ2 : BY σ2 := BY_kept bτ (fun j => hGσ2 11 j (show ¬ ((23 ≤ 11 ∧ 11 < 31)) from by omega)) (fun j => hGσ2 98 j (show ¬ ((23 ≤ 98 ∧ 98 < 31)) from by omega)) (by omega)
  have mσ2 : mI σ2 := mI_kept mτ (fun j hj => hGσ2 89 j (show ¬ ((23 ≤ 89 ∧ 89 < 31)) from by omega)) (fun j => hGσ2 90 j (show ¬ ((23 ≤ 90 ∧ 90 < 31)) from by omega)) (hGσ2 91 0 (show ¬ ((23 ≤ 91 ∧ 91 < 31)) from by omega)) hIτ
  have sσ2 : SR σ2 := SR_kept sτ (fun c j h => hGσ2 c j (show ¬ ((23 ≤ c ∧ c < 31)) from by omega)) (fun j => hGσ2 104 j (show ¬ ((23 ≤ 104 ∧ 104 < 31)) from by omega)) (fun j => hGσ2 105 j (show ¬ ((23 ≤ 105 ∧ 105 < 31)) from by omega))
  refine j_pop (pc := 1163) dL_law_1163 rfl ?_
  refine j_aload_n (pc := 1164) dL_law_1164 rfl rfl ?_
  refine j_aload_n (pc := 1165) dL_law_1165 rfl rfl ?_
  refine j_iload_n (pc := 1166) dL_law_1166 rfl rfl ?_
  refine j_iconst (pc := 1167) dL_law_1167 ?_
  refine j_iadd (pc := 1168) dL_law_1168 ?_
  refine j_scrAt (pc := 1169) dL_law_1169 (by omega) (by omega) (by omega) ?_
  refine j_topV (show _ = v1 from ev1.symm) ?_
  refine j_callV (pc := 1170) (As := [vI v1]) (st := []) (c_X12_back hM v1 ⟨by omega, by omega⟩ σ2 hIσ2 mσ2) mv_L_156 rfl rfl rfl (a_88 hM) dL_law_1170 ⟨Nat.le_of_ble_eq_true rfl, Nat.le_of_ble_eq_true rfl⟩ ⟨Nat.le_of_ble_eq_true rfl, Nat.le_of_ble_eq_true rfl⟩ rfl (Nat.le_of_ble_eq_true rfl) rfl (fun z7 σ8 hz7 => ?_)
  obtain ⟨r10, rfl, hr10, hIσ8, hGσ8, q9_0, q9_1, q9_2, q9_3, q9_4, q9_5⟩ := hz7
  replace q9_0 : mI σ8 := q9_0
  replace q9_1 : (σ8 89 93 = σ2 89 93 ∧ (¬ (v1 = 0 ∨ v1 = 1) ∨ (v1 = 0 ∧ σ2 90 0 = 0) ∨ (v1 = 1 ∧ σ2 90 1 = 0))) ∨ (v1 = 0 ∧ ¬ σ2 90 0 = 0 ∧ σ8 89 93 = σ2 89 193) ∨ (v1 = 1 ∧ ¬ σ2 90 1 = 0 ∧ σ8 89 93 = σ2 89 293) := q9_1
  have y11 : σ2 89 93 = τ 89 93 := (hGσ2 89 93 (show ¬ ((23 ≤ 89 ∧ 89 < 31)) from by omega))
  have f12 : (0 : Int) ≤ τ 89 93 ∧ τ 89 93 ≤ 999 := hIτ 89 93
  have y13 : σ2 90 0 = τ 90 0 := (hGσ2 90 0 (show ¬ ((23 ≤ 90 ∧ 90 < 31)) from by omega))
  have f14 : (0 : Int) ≤ τ 90 0 ∧ τ 90 0 ≤ 1 := hIτ 90 0
  have y15 : σ2 90 1 = τ 90 1 := (hGσ2 90 1 (show ¬ ((23 ≤ 90 ∧ 90 < 31)) from by omega))
  have f16 : (0 : Int) ≤ τ 90 1 ∧ τ 90 1 ≤ 1 := hIτ 90 1
  have y17 : σ2 89 193 = τ 89 193 := (hGσ2 89 193 (show ¬ ((23 ≤ 89 ∧ 89 < 31)) from by omega))
  have f18 : (0 : Int) ≤ τ 89 193 ∧ τ 89 193 ≤ 999 := hIτ 89 193
  have y19 : σ2 89 293 = τ 89 293 := (hGσ2 89 293 (show ¬ ((23 ≤ 89 ∧ 89 < 31)) from by omega))
  have f20 : (0 : Int) ≤ τ 89 293 ∧ τ 89 293 ≤ 999 := hIτ 89 293
  replace q9_2 : (σ8 89 94 = σ2 89 94 ∧ (¬ (v1 = 0 ∨ v1 = 1) ∨ (v1 = 0 ∧ σ2 90 0 = 0) ∨ (v1 = 1 ∧ σ2 90 1 = 0))) ∨ (v1 = 0 ∧ ¬ σ2 90 0 = 0 ∧ σ8 89 94 = σ2 89 194) ∨ (v1 = 1 ∧ ¬ σ2 90 1 = 0 ∧ σ8 89 94 = σ2 89 294) := q9_2
  have y21 : σ2 89 94 = τ 89 94 := (hGσ2 89 94 (show ¬ ((23 ≤ 89 ∧ 89 < 31)) from by omega))
  have f22 : (-2147483648 : Int) ≤ τ 89 94 ∧ τ 89 94 ≤ 2147483647 := hIτ 89 94
  have y23 : σ2 90 0 = τ 90 0 := (hGσ2 90 0 (show ¬ ((23 ≤ 90 ∧ 90 < 31)) from by omega))
  have y24 : σ2 90 1 = τ 90 1 := (hGσ2 90 1 (show ¬ ((23 ≤ 90 ∧ 90 < 31)) from by omega))
  have y25 : σ2 89 194 = τ 89 194 := (hGσ2 89 194 (show ¬ ((23 ≤ 89 ∧ 89 < 31)) from by omega))
  have f26 : (-2147483648 : Int) ≤ τ 89 194 ∧ τ 89 194 ≤ 2147483647 := hIτ 89 194
  have y27 : σ2 89 294 = τ 89 294 := (hGσ2 89 294 (show ¬ ((23 ≤ 89 ∧ 89 < 31)) from by omega))
  have f28 : (-2147483648 : Int) ≤ τ 89 294 ∧ τ 89 294 ≤ 2147483647 := hIτ 89 294
  replace q9_3 : (σ8 89 95 = σ2 89 95 ∧ (¬ (v1 = 0 ∨ v1 = 1) ∨ (v1 = 0 ∧ σ2 90 0 = 0) ∨ (v1 = 1 ∧ σ2 90 1 = 0))) ∨ (v1 = 0 ∧ ¬ σ2 90 0 = 0 ∧ σ8 89 95 = σ2 89 195) ∨ (v1 = 1 ∧ ¬ σ2 90 1 = 0 ∧ σ8 89 95 = σ2 89 295) := q9_3
  have y29 : σ2 89 95 = τ 89 95 := (hGσ2 89 95 (show ¬ ((23 ≤ 89 ∧ 89 < 31)) from by omega))
  have f30 : (0 : Int) ≤ τ 89 95 ∧ τ 89 95 ≤ 999 := hIτ 89 95
  have y31 : σ2 90 0 = τ 90 0 := (hGσ2 90 0 (show ¬ ((23 ≤ 90 ∧ 90 < 31)) from by omega))
  have y32 : σ2 90 1 = τ 90 1 := (hGσ2 90 1 (show ¬ ((23 ≤ 90 ∧ 90 < 31)) from by omega))
  have y33 : σ2 89 195 = τ 89 195 := (hGσ2 89 195 (show ¬ ((23 ≤ 89 ∧ 89 < 31)) from by omega))
  have f34 : (0 : Int) ≤ τ 89 195 ∧ τ 89 195 ≤ 999 := hIτ 89 195
  have y35 : σ2 89 295 = τ 89 295 := (hGσ2 89 295 (show ¬ ((23 ≤ 89 ∧ 89 < 31)) from by omega))
  have f36 : (0 : Int) ≤ τ 89 295 ∧ τ 89 295 ≤ 999 := hIτ 89 295
  replace q9_4 : (σ8 89 96 = σ2 89 96 ∧ (¬ (v1 = 0 ∨ v1 = 1) ∨ (v1 = 0 ∧ σ2 90 0 = 0) ∨ (v1 = 1 ∧ σ2 90 1 = 0))) ∨ (v1 = 0 ∧ ¬ σ2 90 0 = 0 ∧ σ8 89 96 = σ2 89 196) ∨ (v1 = 1 ∧ ¬ σ2 90 1 = 0 ∧ σ8 89 96 = σ2 89 296) := q9_4
  have y37 : σ2 89 96 = τ 89 96 := (hGσ2 89 96 (show ¬ ((23 ≤ 89 ∧ 89 < 31)) from by omega))
  have f38 : (-2147483648 : Int) ≤ τ 89 96 ∧ τ 89 96 ≤ 2147483647 := hIτ 89 96
  have y39 : σ2 90 0 = τ 90 0 := (hGσ2 90 0 (show ¬ ((23 ≤ 90 ∧ 90 < 31)) from by omega))
  have y40 : σ2 90 1 = τ 90 1 := (hGσ2 90 1 (show ¬ ((23 ≤ 90 ∧ 90 < 31)) from by omega))
  have y41 : σ2 89 196 = τ 89 196 := (hGσ2 89 196 (show ¬ ((23 ≤ 89 ∧ 89 < 31)) from by omega))
  have f42 : (-2147483648 : Int) ≤ τ 89 196 ∧ τ 89 196 ≤ 2147483647 := hIτ 89 196
  have y43 : σ2 89 296 = τ 89 296 := (hGσ2 89 296 (show ¬ ((23 ≤ 89 ∧ 89 < 31)) from by omega))
  have f44 : (-2147483648 : Int) ≤ τ 89 296 ∧ τ 89 296 ≤ 2147483647 := hIτ 89 296
  replace q9_5 : ((r10 = -1 ∧ ¬ (v1 = 0 ∨ v1 = 1) ∧ ∀ c j, σ8 c j = σ2 c j) ∨ (r10 = -2 ∧ (v1 = 0 ∨ v1 = 1) ∧ σ2 90 v1.toNat = 0 ∧ ∀ c j, σ8 c j = σ2 c j) ∨ ((v1 = 0 ∨ v1 = 1) ∧ ¬ σ2 90 v1.toNat = 0 ∧ (∀ j : Int, 0 ≤ j → j < 97 → σ8 89 j.toNat = σ2 89 (100 + 100 * v1 + j).toNat) ∧ σ8 91 5 = σ2 89 (197 + 100 * v1).toNat ∧ σ8 91 6 = σ2 89 (198 + 100 * v1).toNat ∧ r10 = cnt (gM 0 σ8) (σ2 91 0).toNat)) := q9_5
  have y45 : σ2 90 (v1.toNat) = τ 90 (v1.toNat) := (hGσ2 90 (v1.toNat) (show ¬ ((23 ≤ 90 ∧ 90 < 31)) from by omega))
  have y46 : σ2 89 ((197 + 100 * v1).toNat) = τ 89 ((197 + 100 * v1).toNat) := (hGσ2 89 ((197 + 100 * v1).toNat) (show ¬ ((23 ≤ 89 ∧ 89 < 31)) from by omega))
  have y47 : σ2 89 ((198 + 100 * v1).toNat) = τ 89 ((198 + 100 * v1).toNat) := (hGσ2 89 ((198 + 100 * v1).toNat) (show ¬ ((23 ≤ 89 ∧ 89 < 31)) from by omega))
  have y48 : σ2 91 0 = τ 91 0 := (hGσ2 91 0 (show ¬ ((23 ≤ 91 ∧ 91 < 31)) from by omega))
  have f49 : (1 : Int) ≤ τ 91 0 ∧ τ 91 0 ≤ 40 := hIτ 91 0
  refine j_st (st' := [vI r10]) rfl ?_
  have y50 : σ8 10 10 = τ 10 10 := ((hGσ8 10 10 (show ¬ ((10 = 89 ∧ 10 < 100) ∨ (10 = 91 ∧ (10 = 5 ∨ 10 = 6))) from by omega))).trans (hGσ2 10 10 (show ¬ ((23 ≤ 10 ∧ 10 < 31)) from by omega))
  have bσ8 : BY σ8 := BY_kept bσ2 (fun j => hGσ8 11 j (show ¬ ((11 = 89 ∧ j < 100) ∨ (11 = 91 ∧ (j = 5 ∨ j = 6))) from by omega)) (fun j => hGσ8 98 j (show ¬ ((98 = 89 ∧ j < 100) ∨ (98 = 91 ∧ (j = 5 ∨ j = 6))) from by omega)) (by omega)
  have mσ8 : mI σ8 := q9_0
  have sσ8 : SR σ8 := SR_kept sσ2 (fun c j h => hGσ8 c j (show ¬ ((c = 89 ∧ j < 100) ∨ (c = 91 ∧ (j = 5 ∨ j = 6))) from by omega)) (fun j => hGσ8 104 j (show ¬ ((104 = 89 ∧ j < 100) ∨ (104 = 91 ∧ (j = 5 ∨ j = 6))) from by omega)) (fun j => hGσ8 105 j (show ¬ ((105 = 89 ∧ j < 100) ∨ (105 = 91 ∧ (j = 5 ∨ j = 6))) from by omega))
  have ht9 : (1 : Int) ≤ τ 91 0 ∧ τ 91 0 ≤ 40 := hIτ 91 0
  have st9 := ST_back stτ ht9 ⟨kτ0, kτ1⟩ q3_4 q9_5 (fun c j h => hGσ2 c j (show ¬ ((23 ≤ c ∧ c < 31)) from by omega)) (fun c j h1 h2 => hGσ8 c j (show ¬ ((c = 89 ∧ j < 100) ∨ (c = 91 ∧ (j = 5 ∨ j = 6))) from by omega))
  have rr9 := st9.2
  clear q3_4 q9_5
  refine j_pop (pc := 1173) dL_law_1173 rfl ?_
  refine j_goto (pc := 1174) (tgt := 1352) dL_law_1174 rfl ?_
  have y51 : σ8 10 10 = τ 10 10 := ((hGσ8 10 10 (show ¬ ((10 = 89 ∧ 10 < 100) ∨ (10 = 91 ∧ (10 = 5 ∨ 10 = 6))) from by omega))).trans (hGσ2 10 10 (show ¬ ((23 ≤ 10 ∧ 10 < 31)) from by omega))
  have y52 : σ8 88 12 = τ 88 12 := ((hGσ8 88 12 (show ¬ ((88 = 89 ∧ 12 < 100) ∨ (88 = 91 ∧ (12 = 5 ∨ 12 = 6))) from by omega))).trans (hGσ2 88 12 (show ¬ ((23 ≤ 88 ∧ 88 < 31)) from by omega))
  have f53 : (0 : Int) ≤ τ 88 12 ∧ τ 88 12 ≤ 400 := hIτ 88 12
  have y54 : σ8 0 13 = τ 0 13 := ((hGσ8 0 13 (show ¬ ((0 = 89 ∧ 13 < 100) ∨ (0 = 91 ∧ (13 = 5 ∨ 13 = 6))) from by omega))).trans (hGσ2 0 13 (show ¬ ((23 ≤ 0 ∧ 0 < 31)) from by omega))
  have f55 : (-2147483648 : Int) ≤ τ 0 13 ∧ τ 0 13 ≤ 2147483647 := hIτ 0 13
  have y56 : σ8 88 17 = τ 88 17 := ((hGσ8 88 17 (show ¬ ((88 = 89 ∧ 17 < 100) ∨ (88 = 91 ∧ (17 = 5 ∨ 17 = 6))) from by omega))).trans (hGσ2 88 17 (show ¬ ((23 ≤ 88 ∧ 88 < 31)) from by omega))
  have f57 : (0 : Int) ≤ τ 88 17 ∧ τ 88 17 ≤ 5 := hIτ 88 17
  have y58 : σ8 31 6 = τ 31 6 := ((hGσ8 31 6 (show ¬ ((31 = 89 ∧ 6 < 100) ∨ (31 = 91 ∧ (6 = 5 ∨ 6 = 6))) from by omega))).trans (hGσ2 31 6 (show ¬ ((23 ≤ 31 ∧ 31 < 31)) from by omega))
  have f59 : (0 : Int) ≤ τ 31 6 ∧ τ 31 6 ≤ 1 := hIτ 31 6
  have y60 : σ8 39 6 = τ 39 6 := ((hGσ8 39 6 (show ¬ ((39 = 89 ∧ 6 < 100) ∨ (39 = 91 ∧ (6 = 5 ∨ 6 = 6))) from by omega))).trans (hGσ2 39 6 (show ¬ ((23 ≤ 39 ∧ 39 < 31)) from by omega))
  have f61 : (0 : Int) ≤ τ 39 6 ∧ τ 39 6 ≤ 1 := hIτ 39 6
  have y62 : σ8 90 0 = τ 90 0 := ((hGσ8 90 0 (show ¬ ((90 = 89 ∧ 0 < 100) ∨ (90 = 91 ∧ (0 = 5 ∨ 0 = 6))) from by omega))).trans (hGσ2 90 0 (show ¬ ((23 ≤ 90 ∧ 90 < 31)) from by omega))
  have y63 : σ8 90 1 = τ 90 1 := ((hGσ8 90 1 (show ¬ ((90 = 89 ∧ 1 < 100) ∨ (90 = 91 ∧ (1 = 5 ∨ 1 = 6))) from by omega))).trans (hGσ2 90 1 (show ¬ ((23 ≤ 90 ∧ 90 < 31)) from by omega))
  obtain ⟨t0, t1, t2, t3, t4, t5, t6, t7, t8, t9, t10, t11, t12, t13, t14, t15, t16, t17⟩ := tτ
  have y64 : σ8 29 0 = σ2 29 0 := (hGσ8 29 0 (show ¬ ((29 = 89 ∧ 0 < 100) ∨ (29 = 91 ∧ (0 = 5 ∨ 0 = 6))) from by omega))
  have f65 : (0 : Int) ≤ σ2 29 0 ∧ σ2 29 0 ≤ 999 := hIσ2 29 0
  have y66 : σ8 30 0 = σ2 30 0 := (hGσ8 30 0 (show ¬ ((30 = 89 ∧ 0 < 100) ∨ (30 = 91 ∧ (0 = 5 ∨ 0 = 6))) from by omega))
  have f67 : (-2147483648 : Int) ≤ σ2 30 0 ∧ σ2 30 0 ≤ 2147483647 := hIσ2 30 0
  have y68 : σ8 29 1 = σ2 29 1 := (hGσ8 29 1 (show ¬ ((29 = 89 ∧ 1 < 100) ∨ (29 = 91 ∧ (1 = 5 ∨ 1 = 6))) from by omega))
  have f69 : (0 : Int) ≤ σ2 29 1 ∧ σ2 29 1 ≤ 999 := hIσ2 29 1
  have y70 : σ8 30 1 = σ2 30 1 := (hGσ8 30 1 (show ¬ ((30 = 89 ∧ 1 < 100) ∨ (30 = 91 ∧ (1 = 5 ∨ 1 = 6))) from by omega))
  have f71 : (-2147483648 : Int) ≤ σ2 30 1 ∧ σ2 30 1 ≤ 2147483647 := hIσ2 30 1
  have y72 : σ8 37 0 = τ 37 0 := ((hGσ8 37 0 (show ¬ ((37 = 89 ∧ 0 < 100) ∨ (37 = 91 ∧ (0 = 5 ∨ 0 = 6))) from by omega))).trans (hGσ2 37 0 (show ¬ ((23 ≤ 37 ∧ 37 < 31)) from by omega))
  have f73 : (0 : Int) ≤ τ 37 0 ∧ τ 37 0 ≤ 999 := hIτ 37 0
  have y74 : σ8 38 0 = τ 38 0 := ((hGσ8 38 0 (show ¬ ((38 = 89 ∧ 0 < 100) ∨ (38 = 91 ∧ (0 = 5 ∨ 0 = 6))) from by omega))).trans (hGσ2 38 0 (show ¬ ((23 ≤ 38 ∧ 38 < 31)) from by omega))
  have f75 : (-2147483648 : Int) ≤ τ 38 0 ∧ τ 38 0 ≤ 2147483647 := hIτ 38 0
  have y76 : σ8 37 1 = τ 37 1 := ((hGσ8 37 1 (show ¬ ((37 = 89 ∧ 1 < 100) ∨ (37 = 91 ∧ (1 = 5 ∨ 1 = 6))) from by omega))).trans (hGσ2 37 1 (show ¬ ((23 ≤ 37 ∧ 37 < 31)) from by omega))
  have f77 : (0 : Int) ≤ τ 37 1 ∧ τ 37 1 ≤ 999 := hIτ 37 1
  have y78 : σ8 38 1 = τ 38 1 := ((hGσ8 38 1 (show ¬ ((38 = 89 ∧ 1 < 100) ∨ (38 = 91 ∧ (1 = 5 ∨ 1 = 6))) from by omega))).trans (hGσ2 38 1 (show ¬ ((23 ≤ 38 ∧ 38 < 31)) from by omega))
  have f79 : (-2147483648 : Int) ≤ τ 38 1 ∧ τ 38 1 ≤ 2147483647 := hIτ 38 1
  have y80 : σ8 45 0 = τ 45 0 := ((hGσ8 45 0 (show ¬ ((45 = 89 ∧ 0 < 100) ∨ (45 = 91 ∧ (0 = 5 ∨ 0 = 6))) from by omega))).trans (hGσ2 45 0 (show ¬ ((23 ≤ 45 ∧ 45 < 31)) from by omega))
  have f81 : (0 : Int) ≤ τ 45 0 ∧ τ 45 0 ≤ 999 := hIτ 45 0
  have y82 : σ8 46 0 = τ 46 0 := ((hGσ8 46 0 (show ¬ ((46 = 89 ∧ 0 < 100) ∨ (46 = 91 ∧ (0 = 5 ∨ 0 = 6))) from by omega))).trans (hGσ2 46 0 (show ¬ ((23 ≤ 46 ∧ 46 < 31)) from by omega))
  have f83 : (-2147483648 : Int) ≤ τ 46 0 ∧ τ 46 0 ≤ 2147483647 := hIτ 46 0
  have y84 : σ8 45 1 = τ 45 1 := ((hGσ8 45 1 (show ¬ ((45 = 89 ∧ 1 < 100) ∨ (45 = 91 ∧ (1 = 5 ∨ 1 = 6))) from by omega))).trans (hGσ2 45 1 (show ¬ ((23 ≤ 45 ∧ 45 < 31)) from by omega))
  have f85 : (0 : Int) ≤ τ 45 1 ∧ τ 45 1 ≤ 999 := hIτ 45 1
  have y86 : σ8 46 1 = τ 46 1 := ((hGσ8 46 1 (show ¬ ((46 = 89 ∧ 1 < 100) ∨ (46 = 91 ∧ (1 = 5 ∨ 1 = 6))) from by omega))).trans (hGσ2 46 1 (show ¬ ((23 ≤ 46 ∧ 46 < 31)) from by omega))
  have f87 : (-2147483648 : Int) ≤ τ 46 1 ∧ τ 46 1 ≤ 2147483647 := hIτ 46 1
  have u193 : σ8 89 193 = τ 89 193 := ((hGσ8 89 193 (show ¬ ((89 = 89 ∧ 193 < 100) ∨ (89 = 91 ∧ (193 = 5 ∨ 193 = 6))) from by omega))).trans (hGσ2 89 193 (show ¬ ((23 ≤ 89 ∧ 89 < 31)) from by omega))
  have u194 : σ8 89 194 = τ 89 194 := ((hGσ8 89 194 (show ¬ ((89 = 89 ∧ 194 < 100) ∨ (89 = 91 ∧ (194 = 5 ∨ 194 = 6))) from by omega))).trans (hGσ2 89 194 (show ¬ ((23 ≤ 89 ∧ 89 < 31)) from by omega))
  have u195 : σ8 89 195 = τ 89 195 := ((hGσ8 89 195 (show ¬ ((89 = 89 ∧ 195 < 100) ∨ (89 = 91 ∧ (195 = 5 ∨ 195 = 6))) from by omega))).trans (hGσ2 89 195 (show ¬ ((23 ≤ 89 ∧ 89 < 31)) from by omega))
  have u196 : σ8 89 196 = τ 89 196 := ((hGσ8 89 196 (show ¬ ((89 = 89 ∧ 196 < 100) ∨ (89 = 91 ∧ (196 = 5 ∨ 196 = 6))) from by omega))).trans (hGσ2 89 196 (show ¬ ((23 ≤ 89 ∧ 89 < 31)) from by omega))
  have u293 : σ8 89 293 = τ 89 293 := ((hGσ8 89 293 (show ¬ ((89 = 89 ∧ 293 < 100) ∨ (89 = 91 ∧ (293 = 5 ∨ 293 = 6))) from by omega))).trans (hGσ2 89 293 (show ¬ ((23 ≤ 89 ∧ 89 < 31)) from by omega))
  have u294 : σ8 89 294 = τ 89 294 := ((hGσ8 89 294 (show ¬ ((89 = 89 ∧ 294 < 100) ∨ (89 = 91 ∧ (294 = 5 ∨ 294 = 6))) from by omega))).trans (hGσ2 89 294 (show ¬ ((23 ≤ 89 ∧ 89 < 31)) from by omega))
  have u295 : σ8 89 295 = τ 89 295 := ((hGσ8 89 295 (show ¬ ((89 = 89 ∧ 295 < 100) ∨ (89 = 91 ∧ (295 = 5 ∨ 295 = 6))) from by omega))).trans (hGσ2 89 295 (show ¬ ((23 ≤ 89 ∧ 89 < 31)) from by omega))
  have u296 : σ8 89 296 = τ 89 296 := ((hGσ8 89 296 (show ¬ ((89 = 89 ∧ 296 < 100) ∨ (89 = 91 ∧ (296 = 5 ∨ 296 = 6))) from by omega))).trans (hGσ2 89 296 (show ¬ ((23 ≤ 89 ∧ 89 < 31)) from by omega))
  exact K σ8 hIσ8 ⟨mσ8, by omega, sσ8, bσ8, by omega, by omega, by omega, ⟨by clear t1 t2 t3 t5 t6 t7 t9 t10 t11 t12 t13 t14 t15 t16 t17 q3_1 q3_2 q3_3 q3_4 q9_2 q9_3 q9_4 q9_5; omega, by clear t0 t2 t3 t4 t6 t7 t8 t10 t11 t12 t13 t14 t15 t16 t17 q3_0 q3_2 q3_3 q3_4 q9_1 q9_3 q9_4 q9_5; omega, by clear t0 t1 t3 t4 t5 t7 t8 t9 t11 t12 t13 t14 t15 t16 t17 q3_0 q3_1 q3_3 q3_4 q9_1 q9_2 q9_4 q9_5; omega, by clear t0 t1 t2 t4 t5 t6 t8 t9 t10 t12 t13 t14 t15 t16 t17 q3_0 q3_1 q3_2 q3_4 q9_1 q9_2 q9_3 q9_5; omega, by clear t1 t2 t3 t5 t6 t7 t9 t10 t11 t12 t13 t14 t15 t16 t17 q3_0 q3_1 q3_2 q3_3 q3_4 q9_1 q9_2 q9_3 q9_4 q9_5; omega, by clear t0 t2 t3 t4 t6 t7 t8 t10 t11 t12 t13 t14 t15 t16 t17 q3_0 q3_1 q3_2 q3_3 q3_4 q9_1 q9_2 q9_3 q9_4 q9_5; omega, by clear t0 t1 t3 t4 t5 t7 t8 t9 t11 t12 t13 t14 t15 t16 t17 q3_0 q3_1 q3_2 q3_3 q3_4 q9_1 q9_2 q9_3 q9_4 q9_5; omega, by clear t0 t1 t2 t4 t5 t6 t8 t9 t10 t12 t13 t14 t15 t16 t17 q3_0 q3_1 q3_2 q3_3 q3_4 q9_1 q9_2 q9_3 q9_4 q9_5; omega, by clear t1 t2 t3 t5 t6 t7 t9 t10 t11 t12 t13 t14 t15 t16 t17 q3_0 q3_1 q3_2 q3_3 q3_4 q9_1 q9_2 q9_3 q9_4 q9_5; omega, by clear t0 t2 t3 t4 t6 t7 t8 t10 t11 t12 t13 t14 t15 t16 t17 q3_0 q3_1 q3_2 q3_3 q3_4 q9_1 q9_2 q9_3 q9_4 q9_5; omega, by clear t0 t1 t3 t4 t5 t7 t8 t9 t11 t12 t13 t14 t15 t16 t17 q3_0 q3_1 q3_2 q3_3 q3_4 q9_1 q9_2 q9_3 q9_4 q9_5; omega, by clear t0 t1 t2 t4 t5 t6 t8 t9 t10 t12 t13 t14 t15 t16 t17 q3_0 q3_1 q3_2 q3_3 q3_4 q9_1 q9_2 q9_3 q9_4 q9_5; omega, by clear t2 t3 t6 t7 t10 t11 t13 t15 t17 q3_2 q3_3 q3_4 q9_3 q9_4 q9_5; omega, by clear t0 t1 t4 t5 t8 t9 t12 t14 t16 q3_0 q3_1 q3_4 q9_1 q9_2 q9_5; omega, by clear t2 t3 t6 t7 t10 t11 t13 t15 t17 q3_0 q3_1 q3_2 q3_3 q3_4 q9_1 q9_2 q9_3 q9_4 q9_5; omega, by clear t0 t1 t4 t5 t8 t9 t12 t14 t16 q3_0 q3_1 q3_2 q3_3 q3_4 q9_1 q9_2 q9_3 q9_4 q9_5; omega, by clear t2 t3 t6 t7 t10 t11 t13 t15 t17 q3_0 q3_1 q3_2 q3_3 q3_4 q9_1 q9_2 q9_3 q9_4 q9_5; omega, by clear t0 t1 t4 t5 t8 t9 t12 t14 t16 q3_0 q3_1 q3_2 q3_3 q3_4 q9_1 q9_2 q9_3 q9_4 q9_5; omega⟩, st9.1⟩
set_option maxHeartbeats 4000000 in
set_option maxRecDepth 100000 in
theorem w_case_33 {G : tw_G} (hX : tw_isX G) (hM : tw_isM G) {E : List Frame → Array Value → State → State → Prop} (hN : (gN G : Int) ≤ 2560) (i : Int) (hi : 0 ≤ i ∧ i + 5 ≤ (gN G : Int)) (τ : tw_M) (hIτ : tw_I τ) (hL : tw_LI τ) (K : ∀ τ' : tw_M, tw_I τ' → tw_LI τ' → tw_J G tw_ML E 1352 [(0, vR 300), (1, vR 0), (2, vR 88), (3, vI i)] [] τ') : tw_J G tw_ML E 1177 [(0, vR 300), (1, vR 0), (2, vR 88), (3, vI i)] [] τ := by
  obtain ⟨mτ, zτ, sτ, bτ, fτ, kτ0, kτ1, tτ, stτ⟩ := hL
  have g9 : (0 : Int) ≤ τ 10 10 ∧ τ 10 10 ≤ 400 := hIτ 10 10
  obtain ⟨v1, ev1⟩ : ∃ v : Int, v = (gxs G (i + 1).toNat).toInt := ⟨_, rfl⟩
  have hv1 : (-2147483648 : Int) ≤ v1 ∧ v1 ≤ 2147483647 := by rw [ev1]; exact i32_in _
  obtain ⟨v2, ev2⟩ : ∃ v : Int, v = (gxs G (i + 2).toNat).toInt := ⟨_, rfl⟩
  have hv2 : (-2147483648 : Int) ≤ v2 ∧ v2 ≤ 2147483647 := by rw [ev2]; exact i32_in _
  obtain ⟨v3, ev3⟩ : ∃ v : Int, v = (gxs G (i + 3).toNat).toInt := ⟨_, rfl⟩
  have hv3 : (-2147483648 : Int) ≤ v3 ∧ v3 ≤ 2147483647 := by rw [ev3]; exact i32_in _
  obtain ⟨v4, ev4⟩ : ∃ v : Int, v = (gxs G (i + 4).toNat).toInt := ⟨_, rfl⟩
  have hv4 : (-2147483648 : Int) ≤ v4 ∧ v4 ≤ 2147483647 := by rw [ev4]; exact i32_in _
  refine j_aload_n (pc := 1177) dL_law_1177 rfl rfl ?_
  refine j_aload_n (pc := 1178) dL_law_1178 rfl rfl ?_
  refine j_iload_n (pc := 1179) dL_law_1179 rfl rfl ?_
  refine j_iconst (pc := 1180) dL_law_1180 ?_
  refine j_iadd (pc := 1181) dL_law_1181 ?_
  refine j_scrAt (pc := 1182) dL_law_1182 (by omega) (by omega) (by omega) ?_
  refine j_topV (show _ = v1 from ev1.symm) ?_
  refine j_aload_n (pc := 1183) dL_law_1183 rfl rfl ?_
  refine j_iload_n (pc := 1184) dL_law_1184 rfl rfl ?_
  refine j_iconst (pc := 1185) dL_law_1185 ?_
  refine j_iadd (pc := 1186) dL_law_1186 ?_
  refine j_scrAt (pc := 1187) dL_law_1187 (by omega) (by omega) (by omega) ?_
  refine j_topV (show _ = v2 from ev2.symm) ?_
  refine j_aload_n (pc := 1188) dL_law_1188 rfl rfl ?_
  refine j_iload_n (pc := 1189) dL_law_1189 rfl rfl ?_
  refine j_iconst (pc := 1190) dL_law_1190 ?_
  refine j_iadd (pc := 1191) dL_law_1191 ?_
  refine j_scrAt (pc := 1192) dL_law_1192 (by omega) (by omega) (by omega) ?_
  refine j_topV (show _ = v3 from ev3.symm) ?_
  refine j_callV (pc := 1193) (As := [vI v1, vI v2, vI v3]) (st := []) (c_X11_sheet hX v1 ⟨by omega, by omega⟩ v2 ⟨by omega, by omega⟩ v3 ⟨by omega, by omega⟩ τ hIτ) mv_L_157 rfl rfl rfl (a_0 hX) dL_law_1193 ⟨Nat.le_of_ble_eq_true rfl, Nat.le_of_ble_eq_true rfl⟩ ⟨Nat.le_of_ble_eq_true rfl, Nat.le_of_ble_eq_true rfl⟩ rfl (Nat.le_of_ble_eq_true rfl) rfl (fun z1 σ2 hz1 => ?_)
  obtain ⟨r4, rfl, hr4, hIσ2, hGσ2, q3_0, q3_1, q3_2, q3_3, q3_4, q3_5, q3_6, q3_7, q3_8⟩ := hz1
  replace q3_0 : (r4 = -1 ∧ (¬ (0 ≤ v1 ∧ v1 ≤ 3 ∧ 0 ≤ v2 ∧ v2 ≤ 2) ∨ 40 < v3)) ∨ (r4 = -14 ∧ 0 ≤ v1 ∧ v1 ≤ 3 ∧ 0 ≤ v2 ∧ v2 ≤ 2 ∧ v3 < 0) ∨ (r4 = 1 ∧ 0 ≤ v1 ∧ v1 ≤ 3 ∧ 0 ≤ v2 ∧ v2 ≤ 2 ∧ 0 ≤ v3 ∧ v3 ≤ 40) := q3_0
  replace q3_1 : (v1 = 0 ∧ r4 = 1 ∧ σ2 80 1 = 1 ∧ σ2 80 3 = v3) ∨ (¬ (v1 = 0 ∧ r4 = 1) ∧ σ2 80 1 = τ 80 1 ∧ σ2 80 3 = τ 80 3) := q3_1
  replace q3_2 : (v1 = 1 ∧ r4 = 1 ∧ σ2 82 1 = 1 ∧ σ2 82 3 = v3) ∨ (¬ (v1 = 1 ∧ r4 = 1) ∧ σ2 82 1 = τ 82 1 ∧ σ2 82 3 = τ 82 3) := q3_2
  replace q3_3 : (v1 = 2 ∧ r4 = 1 ∧ σ2 84 1 = 1 ∧ σ2 84 3 = v3) ∨ (¬ (v1 = 2 ∧ r4 = 1) ∧ σ2 84 1 = τ 84 1 ∧ σ2 84 3 = τ 84 3) := q3_3
  replace q3_4 : (v1 = 3 ∧ r4 = 1 ∧ σ2 86 1 = 1 ∧ σ2 86 3 = v3) ∨ (¬ (v1 = 3 ∧ r4 = 1) ∧ σ2 86 1 = τ 86 1 ∧ σ2 86 3 = τ 86 3) := q3_4
  replace q3_5 : (v1 = 0 ∧ r4 = 1 ∧ σ2 80 2 = v2 ∧ ∀ j : Nat, j < 40 → σ2 81 j = 0) ∨ (¬ (v1 = 0 ∧ r4 = 1) ∧ σ2 80 2 = τ 80 2 ∧ ∀ j : Nat, σ2 81 j = τ 81 j) := q3_5
  replace q3_6 : (v1 = 1 ∧ r4 = 1 ∧ σ2 82 2 = v2 ∧ ∀ j : Nat, j < 40 → σ2 83 j = 0) ∨ (¬ (v1 = 1 ∧ r4 = 1) ∧ σ2 82 2 = τ 82 2 ∧ ∀ j : Nat, σ2 83 j = τ 83 j) := q3_6
  replace q3_7 : (v1 = 2 ∧ r4 = 1 ∧ σ2 84 2 = v2 ∧ ∀ j : Nat, j < 40 → σ2 85 j = 0) ∨ (¬ (v1 = 2 ∧ r4 = 1) ∧ σ2 84 2 = τ 84 2 ∧ ∀ j : Nat, σ2 85 j = τ 85 j) := q3_7
  replace q3_8 : (v1 = 3 ∧ r4 = 1 ∧ σ2 86 2 = v2 ∧ ∀ j : Nat, j < 40 → σ2 87 j = 0) ∨ (¬ (v1 = 3 ∧ r4 = 1) ∧ σ2 86 2 = τ 86 2 ∧ ∀ j : Nat, σ2 87 j = τ 87 j) := q3_8
  refine j_st (st' := [vI r4]) rfl ?_
  have y5 : σ2 10 10 = τ 10 10 := (hGσ2 10 10 (show ¬ ((80 ≤ 10 ∧ 10 < 88)) from by omega))
  have f6 : (0 : Int) ≤ τ 10 10 ∧ τ 10 10 ≤ 400 := hIτ 10 10
  have bσ2 : BY σ2 := BY_kept bτ (fun j => hGσ2 11 j (show ¬ ((80 ≤ 11 ∧ 11 < 88)) from by omega)) (fun j => hGσ2 98 j (show ¬ ((80 ≤ 98 ∧ 98 < 88)) from by omega)) (by omega)
  have mσ2 : mI σ2 := mI_kept mτ (fun j hj => hGσ2 89 j (show ¬ ((80 ≤ 89 ∧ 89 < 88)) from by omega)) (fun j => hGσ2 90 j (show ¬ ((80 ≤ 90 ∧ 90 < 88)) from by omega)) (hGσ2 91 0 (show ¬ ((80 ≤ 91 ∧ 91 < 88)) from by omega)) hIτ
  have tσ2 : TT σ2 := TT_kept tτ (fun c j h => hGσ2 c j (show ¬ ((80 ≤ c ∧ c < 88)) from by omega)) (fun j h => hGσ2 89 j (show ¬ ((80 ≤ 89 ∧ 89 < 88)) from by omega))
  refine j_pop (pc := 1196) dL_law_1196 rfl ?_
  refine j_aload_n (pc := 1197) dL_law_1197 rfl rfl ?_
  refine j_aload_n (pc := 1198) dL_law_1198 rfl rfl ?_
  refine j_iload_n (pc := 1199) dL_law_1199 rfl rfl ?_
  refine j_iconst (pc := 1200) dL_law_1200 ?_
  refine j_iadd (pc := 1201) dL_law_1201 ?_
  refine j_scrAt (pc := 1202) dL_law_1202 (by omega) (by omega) (by omega) ?_
  refine j_topV (show _ = v1 from ev1.symm) ?_
  refine j_aload_n (pc := 1203) dL_law_1203 rfl rfl ?_
  refine j_iload_n (pc := 1204) dL_law_1204 rfl rfl ?_
  refine j_iconst (pc := 1205) dL_law_1205 ?_
  refine j_iadd (pc := 1206) dL_law_1206 ?_
  refine j_scrAt (pc := 1207) dL_law_1207 (by omega) (by omega) (by omega) ?_
  refine j_topV (show _ = v2 from ev2.symm) ?_
  refine j_aload_n (pc := 1208) dL_law_1208 rfl rfl ?_
  refine j_iload_n (pc := 1209) dL_law_1209 rfl rfl ?_
  refine j_iconst (pc := 1210) dL_law_1210 ?_
  refine j_iadd (pc := 1211) dL_law_1211 ?_
  refine j_scrAt (pc := 1212) dL_law_1212 (by omega) (by omega) (by omega) ?_
  refine j_topV (show _ = v3 from ev3.symm) ?_
  refine j_callV (pc := 1213) (As := [vI v1, vI v2, vI v3]) (st := []) (c_X12_sheet hM v1 ⟨by omega, by omega⟩ v2 ⟨by omega, by omega⟩ v3 ⟨by omega, by omega⟩ σ2 hIσ2) mv_L_160 rfl rfl rfl (a_88 hM) dL_law_1213 ⟨Nat.le_of_ble_eq_true rfl, Nat.le_of_ble_eq_true rfl⟩ ⟨Nat.le_of_ble_eq_true rfl, Nat.le_of_ble_eq_true rfl⟩ rfl (Nat.le_of_ble_eq_true rfl) rfl (fun z7 σ8 hz7 => ?_)
  obtain ⟨r10, rfl, hr10, hIσ8, hGσ8, q9_0, q9_1, q9_2, q9_3, q9_4, q9_5⟩ := hz7
  replace q9_0 : (r10 = -1 ∧ (¬ (0 ≤ v1 ∧ v1 ≤ 3 ∧ 0 ≤ v2 ∧ v2 ≤ 2) ∨ 40 < v3)) ∨ (r10 = -14 ∧ 0 ≤ v1 ∧ v1 ≤ 3 ∧ 0 ≤ v2 ∧ v2 ≤ 2 ∧ v3 < 0) ∨ (r10 = 1 ∧ 0 ≤ v1 ∧ v1 ≤ 3 ∧ 0 ≤ v2 ∧ v2 ≤ 2 ∧ 0 ≤ v3 ∧ v3 ≤ 40) := q9_0
  replace q9_1 : (v1 = 0 ∧ r10 = 1 ∧ σ8 104 0 = v2 ∧ σ8 105 0 = v3) ∨ (¬ (v1 = 0 ∧ r10 = 1) ∧ σ8 104 0 = σ2 104 0 ∧ σ8 105 0 = σ2 105 0) := q9_1
  have y11 : σ2 104 0 = τ 104 0 := (hGσ2 104 0 (show ¬ ((80 ≤ 104 ∧ 104 < 88)) from by omega))
  have f12 : (-4 : Int) ≤ τ 104 0 ∧ τ 104 0 ≤ 2 := hIτ 104 0
  have y13 : σ2 105 0 = τ 105 0 := (hGσ2 105 0 (show ¬ ((80 ≤ 105 ∧ 105 < 88)) from by omega))
  have f14 : (0 : Int) ≤ τ 105 0 ∧ τ 105 0 ≤ 40 := hIτ 105 0
  replace q9_2 : (v1 = 1 ∧ r10 = 1 ∧ σ8 104 1 = v2 ∧ σ8 105 1 = v3) ∨ (¬ (v1 = 1 ∧ r10 = 1) ∧ σ8 104 1 = σ2 104 1 ∧ σ8 105 1 = σ2 105 1) := q9_2
  have y15 : σ2 104 1 = τ 104 1 := (hGσ2 104 1 (show ¬ ((80 ≤ 104 ∧ 104 < 88)) from by omega))
  have f16 : (-4 : Int) ≤ τ 104 1 ∧ τ 104 1 ≤ 2 := hIτ 104 1
  have y17 : σ2 105 1 = τ 105 1 := (hGσ2 105 1 (show ¬ ((80 ≤ 105 ∧ 105 < 88)) from by omega))
  have f18 : (0 : Int) ≤ τ 105 1 ∧ τ 105 1 ≤ 40 := hIτ 105 1
  replace q9_3 : (v1 = 2 ∧ r10 = 1 ∧ σ8 104 2 = v2 ∧ σ8 105 2 = v3) ∨ (¬ (v1 = 2 ∧ r10 = 1) ∧ σ8 104 2 = σ2 104 2 ∧ σ8 105 2 = σ2 105 2) := q9_3
  have y19 : σ2 104 2 = τ 104 2 := (hGσ2 104 2 (show ¬ ((80 ≤ 104 ∧ 104 < 88)) from by omega))
  have f20 : (-4 : Int) ≤ τ 104 2 ∧ τ 104 2 ≤ 2 := hIτ 104 2
  have y21 : σ2 105 2 = τ 105 2 := (hGσ2 105 2 (show ¬ ((80 ≤ 105 ∧ 105 < 88)) from by omega))
  have f22 : (0 : Int) ≤ τ 105 2 ∧ τ 105 2 ≤ 40 := hIτ 105 2
  replace q9_4 : (v1 = 3 ∧ r10 = 1 ∧ σ8 104 3 = v2 ∧ σ8 105 3 = v3) ∨ (¬ (v1 = 3 ∧ r10 = 1) ∧ σ8 104 3 = σ2 104 3 ∧ σ8 105 3 = σ2 105 3) := q9_4
  have y23 : σ2 104 3 = τ 104 3 := (hGσ2 104 3 (show ¬ ((80 ≤ 104 ∧ 104 < 88)) from by omega))
  have f24 : (-4 : Int) ≤ τ 104 3 ∧ τ 104 3 ≤ 2 := hIτ 104 3
  have y25 : σ2 105 3 = τ 105 3 := (hGσ2 105 3 (show ¬ ((80 ≤ 105 ∧ 105 < 88)) from by omega))
  have f26 : (0 : Int) ≤ τ 105 3 ∧ τ 105 3 ≤ 40 := hIτ 105 3
  replace q9_5 : (r10 = 1 ∧ (∀ j : Int, 0 ≤ j → j < 40 → σ8 106 (40 * v1 + j).toNat = 0) ∧ ∀ j : Nat, ((j : Int) < 40 * v1 ∨ 40 * v1 + 40 ≤ (j : Int)) → σ8 106 j = σ2 106 j) ∨ (¬ r10 = 1 ∧ ∀ j : Nat, σ8 106 j = σ2 106 j) := q9_5
  refine j_st (st' := [vI r10]) rfl ?_
  have y27 : σ8 10 10 = τ 10 10 := ((hGσ8 10 10 (show ¬ ((104 ≤ 10 ∧ 10 < 107)) from by omega))).trans (hGσ2 10 10 (show ¬ ((80 ≤ 10 ∧ 10 < 88)) from by omega))
  have bσ8 : BY σ8 := BY_kept bσ2 (fun j => hGσ8 11 j (show ¬ ((104 ≤ 11 ∧ 11 < 107)) from by omega)) (fun j => hGσ8 98 j (show ¬ ((104 ≤ 98 ∧ 98 < 107)) from by omega)) (by omega)
  have mσ8 : mI σ8 := mI_kept mσ2 (fun j hj => hGσ8 89 j (show ¬ ((104 ≤ 89 ∧ 89 < 107)) from by omega)) (fun j => hGσ8 90 j (show ¬ ((104 ≤ 90 ∧ 90 < 107)) from by omega)) (hGσ8 91 0 (show ¬ ((104 ≤ 91 ∧ 91 < 107)) from by omega)) hIσ2
  have tσ8 : TT σ8 := TT_kept tσ2 (fun c j h => hGσ8 c j (show ¬ ((104 ≤ c ∧ c < 107)) from by omega)) (fun j h => hGσ8 89 j (show ¬ ((104 ≤ 89 ∧ 89 < 107)) from by omega))
  have ht9 : (1 : Int) ≤ τ 91 0 ∧ τ 91 0 ≤ 40 := hIτ 91 0
  have rr8 : r4 = r10 := by
    clear q3_5 q3_6 q3_7 q3_8 q9_5
    clear q3_1 q3_2 q3_3 q3_4 q9_1 q9_2 q9_3 q9_4
    omega
  have y8 := q9_5
  rw [← rr8] at y8
  have hk8 : r4 = 1 → 0 ≤ v1 ∧ v1 ≤ 3 := by clear q3_5 q3_6 q3_7 q3_8 q9_5 q3_1 q3_2 q3_3 q3_4 q9_1 q9_2 q9_3 q9_4 y8; omega
  have x00 : (v1 = 0 ∧ r4 = 1) ∨ (¬ (v1 = 0 ∧ r4 = 1) ∧ σ2 80 1 = τ 80 1) := by rcases q3_1 with z | z; exact Or.inl ⟨z.1, z.2.1⟩; exact Or.inr ⟨z.1, z.2.1⟩
  have y00 : (v1 = 0 ∧ r4 = 1 ∧ σ8 104 0 = v2) ∨ (¬ (v1 = 0 ∧ r4 = 1) ∧ σ8 104 0 = σ2 104 0) := by rw [rr8]; rcases q9_1 with z | z; exact Or.inl ⟨z.1, z.2.1, z.2.2.1⟩; exact Or.inr ⟨z.1, z.2.1⟩
  have sh0 : SHK 0 σ8 := SHK_sheet (c := 0) (by decide) (stτ.2.2.2.2.2.2.1 0 (by decide)) x00 q3_5 y00 y8 hk8 (fun c j h => hGσ2 c j (show ¬ ((80 ≤ c ∧ c < 88)) from by omega)) (fun c j h => hGσ8 c j (show ¬ ((104 ≤ c ∧ c < 107)) from by omega))
  have x01 : (v1 = 1 ∧ r4 = 1) ∨ (¬ (v1 = 1 ∧ r4 = 1) ∧ σ2 82 1 = τ 82 1) := by rcases q3_2 with z | z; exact Or.inl ⟨z.1, z.2.1⟩; exact Or.inr ⟨z.1, z.2.1⟩
  have y01 : (v1 = 1 ∧ r4 = 1 ∧ σ8 104 1 = v2) ∨ (¬ (v1 = 1 ∧ r4 = 1) ∧ σ8 104 1 = σ2 104 1) := by rw [rr8]; rcases q9_2 with z | z; exact Or.inl ⟨z.1, z.2.1, z.2.2.1⟩; exact Or.inr ⟨z.1, z.2.1⟩
  have sh1 : SHK 1 σ8 := SHK_sheet (c := 1) (by decide) (stτ.2.2.2.2.2.2.1 1 (by decide)) x01 q3_6 y01 y8 hk8 (fun c j h => hGσ2 c j (show ¬ ((80 ≤ c ∧ c < 88)) from by omega)) (fun c j h => hGσ8 c j (show ¬ ((104 ≤ c ∧ c < 107)) from by omega))
  have x02 : (v1 = 2 ∧ r4 = 1) ∨ (¬ (v1 = 2 ∧ r4 = 1) ∧ σ2 84 1 = τ 84 1) := by rcases q3_3 with z | z; exact Or.inl ⟨z.1, z.2.1⟩; exact Or.inr ⟨z.1, z.2.1⟩
  have y02 : (v1 = 2 ∧ r4 = 1 ∧ σ8 104 2 = v2) ∨ (¬ (v1 = 2 ∧ r4 = 1) ∧ σ8 104 2 = σ2 104 2) := by rw [rr8]; rcases q9_3 with z | z; exact Or.inl ⟨z.1, z.2.1, z.2.2.1⟩; exact Or.inr ⟨z.1, z.2.1⟩
  have sh2 : SHK 2 σ8 := SHK_sheet (c := 2) (by decide) (stτ.2.2.2.2.2.2.1 2 (by decide)) x02 q3_7 y02 y8 hk8 (fun c j h => hGσ2 c j (show ¬ ((80 ≤ c ∧ c < 88)) from by omega)) (fun c j h => hGσ8 c j (show ¬ ((104 ≤ c ∧ c < 107)) from by omega))
  have x03 : (v1 = 3 ∧ r4 = 1) ∨ (¬ (v1 = 3 ∧ r4 = 1) ∧ σ2 86 1 = τ 86 1) := by rcases q3_4 with z | z; exact Or.inl ⟨z.1, z.2.1⟩; exact Or.inr ⟨z.1, z.2.1⟩
  have y03 : (v1 = 3 ∧ r4 = 1 ∧ σ8 104 3 = v2) ∨ (¬ (v1 = 3 ∧ r4 = 1) ∧ σ8 104 3 = σ2 104 3) := by rw [rr8]; rcases q9_4 with z | z; exact Or.inl ⟨z.1, z.2.1, z.2.2.1⟩; exact Or.inr ⟨z.1, z.2.1⟩
  have sh3 : SHK 3 σ8 := SHK_sheet (c := 3) (by decide) (stτ.2.2.2.2.2.2.1 3 (by decide)) x03 q3_8 y03 y8 hk8 (fun c j h => hGσ2 c j (show ¬ ((80 ≤ c ∧ c < 88)) from by omega)) (fun c j h => hGσ8 c j (show ¬ ((104 ≤ c ∧ c < 107)) from by omega))
  have st9 : ST σ8 := ST_S stτ (fun q hq => by rcases (show q = 0 ∨ q = 1 ∨ q = 2 ∨ q = 3 from by omega) with z | z | z | z <;> subst z; exact sh0; exact sh1; exact sh2; exact sh3) (fun c j h => (hGσ8 c j (show ¬ ((104 ≤ c ∧ c < 107)) from by omega)).trans (hGσ2 c j (show ¬ ((80 ≤ c ∧ c < 88)) from by omega)))
  have rr9 : r4 = r10 := rr8
  clear y8
  clear q3_5 q3_6 q3_7 q3_8 q9_5
  refine j_pop (pc := 1216) dL_law_1216 rfl ?_
  refine j_goto (pc := 1217) (tgt := 1352) dL_law_1217 rfl ?_
  have y28 : σ8 10 10 = τ 10 10 := ((hGσ8 10 10 (show ¬ ((104 ≤ 10 ∧ 10 < 107)) from by omega))).trans (hGσ2 10 10 (show ¬ ((80 ≤ 10 ∧ 10 < 88)) from by omega))
  have y29 : σ8 88 12 = τ 88 12 := ((hGσ8 88 12 (show ¬ ((104 ≤ 88 ∧ 88 < 107)) from by omega))).trans (hGσ2 88 12 (show ¬ ((80 ≤ 88 ∧ 88 < 88)) from by omega))
  have f30 : (0 : Int) ≤ τ 88 12 ∧ τ 88 12 ≤ 400 := hIτ 88 12
  have y31 : σ8 0 13 = τ 0 13 := ((hGσ8 0 13 (show ¬ ((104 ≤ 0 ∧ 0 < 107)) from by omega))).trans (hGσ2 0 13 (show ¬ ((80 ≤ 0 ∧ 0 < 88)) from by omega))
  have f32 : (-2147483648 : Int) ≤ τ 0 13 ∧ τ 0 13 ≤ 2147483647 := hIτ 0 13
  have y33 : σ8 88 17 = τ 88 17 := ((hGσ8 88 17 (show ¬ ((104 ≤ 88 ∧ 88 < 107)) from by omega))).trans (hGσ2 88 17 (show ¬ ((80 ≤ 88 ∧ 88 < 88)) from by omega))
  have f34 : (0 : Int) ≤ τ 88 17 ∧ τ 88 17 ≤ 5 := hIτ 88 17
  have y35 : σ8 31 6 = τ 31 6 := ((hGσ8 31 6 (show ¬ ((104 ≤ 31 ∧ 31 < 107)) from by omega))).trans (hGσ2 31 6 (show ¬ ((80 ≤ 31 ∧ 31 < 88)) from by omega))
  have f36 : (0 : Int) ≤ τ 31 6 ∧ τ 31 6 ≤ 1 := hIτ 31 6
  have y37 : σ8 39 6 = τ 39 6 := ((hGσ8 39 6 (show ¬ ((104 ≤ 39 ∧ 39 < 107)) from by omega))).trans (hGσ2 39 6 (show ¬ ((80 ≤ 39 ∧ 39 < 88)) from by omega))
  have f38 : (0 : Int) ≤ τ 39 6 ∧ τ 39 6 ≤ 1 := hIτ 39 6
  have y39 : σ8 90 0 = τ 90 0 := ((hGσ8 90 0 (show ¬ ((104 ≤ 90 ∧ 90 < 107)) from by omega))).trans (hGσ2 90 0 (show ¬ ((80 ≤ 90 ∧ 90 < 88)) from by omega))
  have f40 : (0 : Int) ≤ τ 90 0 ∧ τ 90 0 ≤ 1 := hIτ 90 0
  have y41 : σ8 90 1 = τ 90 1 := ((hGσ8 90 1 (show ¬ ((104 ≤ 90 ∧ 90 < 107)) from by omega))).trans (hGσ2 90 1 (show ¬ ((80 ≤ 90 ∧ 90 < 88)) from by omega))
  have f42 : (0 : Int) ≤ τ 90 1 ∧ τ 90 1 ≤ 1 := hIτ 90 1
  obtain ⟨s0, s1, s2, s3⟩ := sτ
  have y43 : σ8 80 1 = σ2 80 1 := (hGσ8 80 1 (show ¬ ((104 ≤ 80 ∧ 80 < 107)) from by omega))
  have f44 : (0 : Int) ≤ σ2 80 1 ∧ σ2 80 1 ≤ 1 := hIσ2 80 1
  have y45 : σ8 80 3 = σ2 80 3 := (hGσ8 80 3 (show ¬ ((104 ≤ 80 ∧ 80 < 107)) from by omega))
  have f46 : (0 : Int) ≤ σ2 80 3 ∧ σ2 80 3 ≤ 40 := hIσ2 80 3
  have y47 : σ8 82 1 = σ2 82 1 := (hGσ8 82 1 (show ¬ ((104 ≤ 82 ∧ 82 < 107)) from by omega))
  have f48 : (0 : Int) ≤ σ2 82 1 ∧ σ2 82 1 ≤ 1 := hIσ2 82 1
  have y49 : σ8 82 3 = σ2 82 3 := (hGσ8 82 3 (show ¬ ((104 ≤ 82 ∧ 82 < 107)) from by omega))
  have f50 : (0 : Int) ≤ σ2 82 3 ∧ σ2 82 3 ≤ 40 := hIσ2 82 3
  have y51 : σ8 84 1 = σ2 84 1 := (hGσ8 84 1 (show ¬ ((104 ≤ 84 ∧ 84 < 107)) from by omega))
  have f52 : (0 : Int) ≤ σ2 84 1 ∧ σ2 84 1 ≤ 1 := hIσ2 84 1
  have y53 : σ8 84 3 = σ2 84 3 := (hGσ8 84 3 (show ¬ ((104 ≤ 84 ∧ 84 < 107)) from by omega))
  have f54 : (0 : Int) ≤ σ2 84 3 ∧ σ2 84 3 ≤ 40 := hIσ2 84 3
  have y55 : σ8 86 1 = σ2 86 1 := (hGσ8 86 1 (show ¬ ((104 ≤ 86 ∧ 86 < 107)) from by omega))
  have f56 : (0 : Int) ≤ σ2 86 1 ∧ σ2 86 1 ≤ 1 := hIσ2 86 1
  have y57 : σ8 86 3 = σ2 86 3 := (hGσ8 86 3 (show ¬ ((104 ≤ 86 ∧ 86 < 107)) from by omega))
  have f58 : (0 : Int) ≤ σ2 86 3 ∧ σ2 86 3 ≤ 40 := hIσ2 86 3
  have rr : (r4 = 1 ∧ r10 = 1 ∧ 0 ≤ v2) ∨ (¬ r4 = 1 ∧ ¬ r10 = 1) := by
    clear s0 s1 s2 s3 q3_1 q9_1 q3_2 q9_2 q3_3 q9_3 q3_4 q9_4
    omega
  exact K σ8 hIσ8 ⟨mσ8, by omega, ⟨by clear q3_0 q9_0 s1 q3_2 q9_2 s2 q3_3 q9_3 s3 q3_4 q9_4; omega, by clear q3_0 q9_0 s0 q3_1 q9_1 s2 q3_3 q9_3 s3 q3_4 q9_4; omega, by clear q3_0 q9_0 s0 q3_1 q9_1 s1 q3_2 q9_2 s3 q3_4 q9_4; omega, by clear q3_0 q9_0 s0 q3_1 q9_1 s1 q3_2 q9_2 s2 q3_3 q9_3; omega⟩, bσ8, by omega, by omega, by omega, tσ8, st9⟩
set_option maxHeartbeats 4000000 in
set_option maxRecDepth 100000 in
theorem w_case_34 {G : tw_G} (hX : tw_isX G) (hM : tw_isM G) {E : List Frame → Array Value → State → State → Prop} (hN : (gN G : Int) ≤ 2560) (i : Int) (hi : 0 ≤ i ∧ i + 5 ≤ (gN G : Int)) (τ : tw_M) (hIτ : tw_I τ) (hL : tw_LI τ) (K : ∀ τ' : tw_M, tw_I τ' → tw_LI τ' → tw_J G tw_ML E 1352 [(0, vR 300), (1, vR 0), (2, vR 88), (3, vI i)] [] τ') : tw_J G tw_ML E 1220 [(0, vR 300), (1, vR 0), (2, vR 88), (3, vI i)] [] τ := by
  obtain ⟨mτ, zτ, sτ, bτ, fτ, kτ0, kτ1, tτ, stτ⟩ := hL
  have g9 : (0 : Int) ≤ τ 10 10 ∧ τ 10 10 ≤ 400 := hIτ 10 10
  obtain ⟨v1, ev1⟩ : ∃ v : Int, v = (gxs G (i + 1).toNat).toInt := ⟨_, rfl⟩
  have hv1 : (-2147483648 : Int) ≤ v1 ∧ v1 ≤ 2147483647 := by rw [ev1]; exact i32_in _
  obtain ⟨v2, ev2⟩ : ∃ v : Int, v = (gxs G (i + 2).toNat).toInt := ⟨_, rfl⟩
  have hv2 : (-2147483648 : Int) ≤ v2 ∧ v2 ≤ 2147483647 := by rw [ev2]; exact i32_in _
  obtain ⟨v3, ev3⟩ : ∃ v : Int, v = (gxs G (i + 3).toNat).toInt := ⟨_, rfl⟩
  have hv3 : (-2147483648 : Int) ≤ v3 ∧ v3 ≤ 2147483647 := by rw [ev3]; exact i32_in _
  obtain ⟨v4, ev4⟩ : ∃ v : Int, v = (gxs G (i + 4).toNat).toInt := ⟨_, rfl⟩
  have hv4 : (-2147483648 : Int) ≤ v4 ∧ v4 ≤ 2147483647 := by rw [ev4]; exact i32_in _
  refine j_aload_n (pc := 1220) dL_law_1220 rfl rfl ?_
  refine j_aload_n (pc := 1221) dL_law_1221 rfl rfl ?_
  refine j_iload_n (pc := 1222) dL_law_1222 rfl rfl ?_
  refine j_iconst (pc := 1223) dL_law_1223 ?_
  refine j_iadd (pc := 1224) dL_law_1224 ?_
  refine j_scrAt (pc := 1225) dL_law_1225 (by omega) (by omega) (by omega) ?_
  refine j_topV (show _ = v1 from ev1.symm) ?_
  refine j_aload_n (pc := 1226) dL_law_1226 rfl rfl ?_
  refine j_iload_n (pc := 1227) dL_law_1227 rfl rfl ?_
  refine j_iconst (pc := 1228) dL_law_1228 ?_
  refine j_iadd (pc := 1229) dL_law_1229 ?_
  refine j_scrAt (pc := 1230) dL_law_1230 (by omega) (by omega) (by omega) ?_
  refine j_topV (show _ = v2 from ev2.symm) ?_
  refine j_aload_n (pc := 1231) dL_law_1231 rfl rfl ?_
  refine j_iload_n (pc := 1232) dL_law_1232 rfl rfl ?_
  refine j_iconst (pc := 1233) dL_law_1233 ?_
  refine j_iadd (pc := 1234) dL_law_1234 ?_
  refine j_scrAt (pc := 1235) dL_law_1235 (by omega) (by omega) (by omega) ?_
  refine j_topV (show _ = v3 from ev3.symm) ?_
  refine j_callV (pc := 1236) (As := [vI v1, vI v2, vI v3]) (st := []) (c_X11_lay hX v1 ⟨by omega, by omega⟩ v2 ⟨by omega, by omega⟩ v3 ⟨by omega, by omega⟩ τ hIτ) mv_L_161 rfl rfl rfl (a_0 hX) dL_law_1236 ⟨Nat.le_of_ble_eq_true rfl, Nat.le_of_ble_eq_true rfl⟩ ⟨Nat.le_of_ble_eq_true rfl, Nat.le_of_ble_eq_true rfl⟩ rfl (Nat.le_of_ble_eq_true rfl) rfl (fun z1 σ2 hz1 => ?_)
  obtain ⟨r4, rfl, hr4, hIσ2, hGσ2, q3_0, q3_1, q3_2, q3_3, q3_4, q3_5, q3_6, q3_7, q3_8⟩ := hz1
  replace q3_0 : (r4 = -1 ∧ ¬ (0 ≤ v1 ∧ v1 ≤ 3)) ∨ (0 ≤ v1 ∧ v1 ≤ 3) := q3_0
  replace q3_1 : ¬ v1 = 0 ∨ (r4 = -11 ∧ τ 80 1 = 0) ∨ (r4 = -12 ∧ ¬ τ 80 1 = 0 ∧ ¬ (0 ≤ v2 ∧ v2 < τ 80 3)) ∨ (r4 = 1 ∧ ¬ τ 80 1 = 0 ∧ 0 ≤ v2 ∧ v2 < τ 80 3) := q3_1
  replace q3_2 : ¬ v1 = 1 ∨ (r4 = -11 ∧ τ 82 1 = 0) ∨ (r4 = -12 ∧ ¬ τ 82 1 = 0 ∧ ¬ (0 ≤ v2 ∧ v2 < τ 82 3)) ∨ (r4 = 1 ∧ ¬ τ 82 1 = 0 ∧ 0 ≤ v2 ∧ v2 < τ 82 3) := q3_2
  replace q3_3 : ¬ v1 = 2 ∨ (r4 = -11 ∧ τ 84 1 = 0) ∨ (r4 = -12 ∧ ¬ τ 84 1 = 0 ∧ ¬ (0 ≤ v2 ∧ v2 < τ 84 3)) ∨ (r4 = 1 ∧ ¬ τ 84 1 = 0 ∧ 0 ≤ v2 ∧ v2 < τ 84 3) := q3_3
  replace q3_4 : ¬ v1 = 3 ∨ (r4 = -11 ∧ τ 86 1 = 0) ∨ (r4 = -12 ∧ ¬ τ 86 1 = 0 ∧ ¬ (0 ≤ v2 ∧ v2 < τ 86 3)) ∨ (r4 = 1 ∧ ¬ τ 86 1 = 0 ∧ 0 ≤ v2 ∧ v2 < τ 86 3) := q3_4
  replace q3_5 : (v1 = 0 ∧ r4 = 1 ∧ σ2 81 v2.toNat = nrw (τ 80 2) v3 ∧ ∀ j : Nat, ¬ j = v2.toNat → σ2 81 j = τ 81 j) ∨ (¬ (v1 = 0 ∧ r4 = 1) ∧ ∀ j : Nat, σ2 81 j = τ 81 j) := q3_5
  replace q3_6 : (v1 = 1 ∧ r4 = 1 ∧ σ2 83 v2.toNat = nrw (τ 82 2) v3 ∧ ∀ j : Nat, ¬ j = v2.toNat → σ2 83 j = τ 83 j) ∨ (¬ (v1 = 1 ∧ r4 = 1) ∧ ∀ j : Nat, σ2 83 j = τ 83 j) := q3_6
  replace q3_7 : (v1 = 2 ∧ r4 = 1 ∧ σ2 85 v2.toNat = nrw (τ 84 2) v3 ∧ ∀ j : Nat, ¬ j = v2.toNat → σ2 85 j = τ 85 j) ∨ (¬ (v1 = 2 ∧ r4 = 1) ∧ ∀ j : Nat, σ2 85 j = τ 85 j) := q3_7
  replace q3_8 : (v1 = 3 ∧ r4 = 1 ∧ σ2 87 v2.toNat = nrw (τ 86 2) v3 ∧ ∀ j : Nat, ¬ j = v2.toNat → σ2 87 j = τ 87 j) ∨ (¬ (v1 = 3 ∧ r4 = 1) ∧ ∀ j : Nat, σ2 87 j = τ 87 j) := q3_8
  refine j_st (st' := [vI r4]) rfl ?_
  have y5 : σ2 10 10 = τ 10 10 := (hGσ2 10 10 (show ¬ (10 = 81 ∨ 10 = 83 ∨ 10 = 85 ∨ 10 = 87) from by omega))
  have f6 : (0 : Int) ≤ τ 10 10 ∧ τ 10 10 ≤ 400 := hIτ 10 10
  have bσ2 : BY σ2 := BY_kept bτ (fun j => hGσ2 11 j (show ¬ (11 = 81 ∨ 11 = 83 ∨ 11 = 85 ∨ 11 = 87) from by omega)) (fun j => hGσ2 98 j (show ¬ (98 = 81 ∨ 98 = 83 ∨ 98 = 85 ∨ 98 = 87) from by omega)) (by omega)
  have mσ2 : mI σ2 := mI_kept mτ (fun j hj => hGσ2 89 j (show ¬ (89 = 81 ∨ 89 = 83 ∨ 89 = 85 ∨ 89 = 87) from by omega)) (fun j => hGσ2 90 j (show ¬ (90 = 81 ∨ 90 = 83 ∨ 90 = 85 ∨ 90 = 87) from by omega)) (hGσ2 91 0 (show ¬ (91 = 81 ∨ 91 = 83 ∨ 91 = 85 ∨ 91 = 87) from by omega)) hIτ
  have sσ2 : SR σ2 := SR_kept sτ (fun c j h => hGσ2 c j (show ¬ (c = 81 ∨ c = 83 ∨ c = 85 ∨ c = 87) from by omega)) (fun j => hGσ2 104 j (show ¬ (104 = 81 ∨ 104 = 83 ∨ 104 = 85 ∨ 104 = 87) from by omega)) (fun j => hGσ2 105 j (show ¬ (105 = 81 ∨ 105 = 83 ∨ 105 = 85 ∨ 105 = 87) from by omega))
  have tσ2 : TT σ2 := TT_kept tτ (fun c j h => hGσ2 c j (show ¬ (c = 81 ∨ c = 83 ∨ c = 85 ∨ c = 87) from by omega)) (fun j h => hGσ2 89 j (show ¬ (89 = 81 ∨ 89 = 83 ∨ 89 = 85 ∨ 89 = 87) from by omega))
  refine j_pop (pc := 1239) dL_law_1239 rfl ?_
  refine j_aload_n (pc := 1240) dL_law_1240 rfl rfl ?_
  refine j_aload_n (pc := 1241) dL_law_1241 rfl rfl ?_
  refine j_iload_n (pc := 1242) dL_law_1242 rfl rfl ?_
  refine j_iconst (pc := 1243) dL_law_1243 ?_
  refine j_iadd (pc := 1244) dL_law_1244 ?_
  refine j_scrAt (pc := 1245) dL_law_1245 (by omega) (by omega) (by omega) ?_
  refine j_topV (show _ = v1 from ev1.symm) ?_
  refine j_aload_n (pc := 1246) dL_law_1246 rfl rfl ?_
  refine j_iload_n (pc := 1247) dL_law_1247 rfl rfl ?_
  refine j_iconst (pc := 1248) dL_law_1248 ?_
  refine j_iadd (pc := 1249) dL_law_1249 ?_
  refine j_scrAt (pc := 1250) dL_law_1250 (by omega) (by omega) (by omega) ?_
  refine j_topV (show _ = v2 from ev2.symm) ?_
  refine j_aload_n (pc := 1251) dL_law_1251 rfl rfl ?_
  refine j_iload_n (pc := 1252) dL_law_1252 rfl rfl ?_
  refine j_iconst (pc := 1253) dL_law_1253 ?_
  refine j_iadd (pc := 1254) dL_law_1254 ?_
  refine j_scrAt (pc := 1255) dL_law_1255 (by omega) (by omega) (by omega) ?_
  refine j_topV (show _ = v3 from ev3.symm) ?_
  refine j_callV (pc := 1256) (As := [vI v1, vI v2, vI v3]) (st := []) (c_X12_lay hM v1 ⟨by omega, by omega⟩ v2 ⟨by omega, by omega⟩ v3 ⟨by omega, by omega⟩ σ2 hIσ2) mv_L_164 rfl rfl rfl (a_88 hM) dL_law_1256 ⟨Nat.le_of_ble_eq_true rfl, Nat.le_of_ble_eq_true rfl⟩ ⟨Nat.le_of_ble_eq_true rfl, Nat.le_of_ble_eq_true rfl⟩ rfl (Nat.le_of_ble_eq_true rfl) rfl (fun z7 σ8 hz7 => ?_)
  obtain ⟨r10, rfl, hr10, hIσ8, hGσ8, q9_0, q9_1⟩ := hz7
  replace q9_0 : (r10 = -1 ∧ ¬ (0 ≤ v1 ∧ v1 ≤ 3)) ∨ (r10 = -11 ∧ 0 ≤ v1 ∧ v1 ≤ 3 ∧ σ2 104 v1.toNat = -4) ∨ (r10 = -12 ∧ 0 ≤ v1 ∧ v1 ≤ 3 ∧ ¬ σ2 104 v1.toNat = -4 ∧ ¬ (0 ≤ v2 ∧ v2 < σ2 105 v1.toNat)) ∨ (r10 = 1 ∧ 0 ≤ v1 ∧ v1 ≤ 3 ∧ ¬ σ2 104 v1.toNat = -4 ∧ 0 ≤ v2 ∧ v2 < σ2 105 v1.toNat) := q9_0
  have y11 : σ2 104 (v1.toNat) = τ 104 (v1.toNat) := (hGσ2 104 (v1.toNat) (show ¬ (104 = 81 ∨ 104 = 83 ∨ 104 = 85 ∨ 104 = 87) from by omega))
  have y12 : σ2 105 (v1.toNat) = τ 105 (v1.toNat) := (hGσ2 105 (v1.toNat) (show ¬ (105 = 81 ∨ 105 = 83 ∨ 105 = 85 ∨ 105 = 87) from by omega))
  replace q9_1 : (r10 = 1 ∧ σ8 106 (40 * v1 + v2).toNat = nrw (σ2 104 v1.toNat) v3 ∧ ∀ j : Nat, ¬ j = (40 * v1 + v2).toNat → σ8 106 j = σ2 106 j) ∨ (¬ r10 = 1 ∧ ∀ j : Nat, σ8 106 j = σ2 106 j) := q9_1
  have y13 : σ2 104 (v1.toNat) = τ 104 (v1.toNat) := (hGσ2 104 (v1.toNat) (show ¬ (104 = 81 ∨ 104 = 83 ∨ 104 = 85 ∨ 104 = 87) from by omega))
  refine j_st (st' := [vI r10]) rfl ?_
  have y14 : σ8 10 10 = τ 10 10 := ((hGσ8 10 10 (show ¬ (10 = 106) from by omega))).trans (hGσ2 10 10 (show ¬ (10 = 81 ∨ 10 = 83 ∨ 10 = 85 ∨ 10 = 87) from by omega))
  have bσ8 : BY σ8 := BY_kept bσ2 (fun j => hGσ8 11 j (show ¬ (11 = 106) from by omega)) (fun j => hGσ8 98 j (show ¬ (98 = 106) from by omega)) (by omega)
  have mσ8 : mI σ8 := mI_kept mσ2 (fun j hj => hGσ8 89 j (show ¬ (89 = 106) from by omega)) (fun j => hGσ8 90 j (show ¬ (90 = 106) from by omega)) (hGσ8 91 0 (show ¬ (91 = 106) from by omega)) hIσ2
  have sσ8 : SR σ8 := SR_kept sσ2 (fun c j h => hGσ8 c j (show ¬ (c = 106) from by omega)) (fun j => hGσ8 104 j (show ¬ (104 = 106) from by omega)) (fun j => hGσ8 105 j (show ¬ (105 = 106) from by omega))
  have tσ8 : TT σ8 := TT_kept tσ2 (fun c j h => hGσ8 c j (show ¬ (c = 106) from by omega)) (fun j h => hGσ8 89 j (show ¬ (89 = 106) from by omega))
  have ht9 : (1 : Int) ≤ τ 91 0 ∧ τ 91 0 ≤ 40 := hIτ 91 0
  have rr8 : r4 = r10 := by
    clear q3_5 q3_6 q3_7 q3_8 q9_1
    obtain ⟨s0, s1, s2, s3⟩ := sτ
    rcases (show v1 = 0 ∨ v1 = 1 ∨ v1 = 2 ∨ v1 = 3 ∨ ¬ (0 ≤ v1 ∧ v1 ≤ 3) by omega) with q9 | q9 | q9 | q9 | q9
    · have x3 := q3_1.resolve_left (by omega)
      clear q3_1 q3_2 q3_3 q3_4 s1 s2 s3
      have x1 : σ2 104 v1.toNat = τ 104 0 := by rw [show v1.toNat = 0 from by omega]; exact hGσ2 104 0 (show ¬ (104 = 81 ∨ 104 = 83 ∨ 104 = 85 ∨ 104 = 87) from by omega)
      have x2 : σ2 105 v1.toNat = τ 105 0 := by rw [show v1.toNat = 0 from by omega]; exact hGσ2 105 0 (show ¬ (105 = 81 ∨ 105 = 83 ∨ 105 = 85 ∨ 105 = 87) from by omega)
      rcases q9_0 with x4 | x4 | x4 | x4 <;> rcases x3 with x3 | x3 | x3 <;> omega
    · have x3 := q3_2.resolve_left (by omega)
      clear q3_1 q3_2 q3_3 q3_4 s0 s2 s3
      have x1 : σ2 104 v1.toNat = τ 104 1 := by rw [show v1.toNat = 1 from by omega]; exact hGσ2 104 1 (show ¬ (104 = 81 ∨ 104 = 83 ∨ 104 = 85 ∨ 104 = 87) from by omega)
      have x2 : σ2 105 v1.toNat = τ 105 1 := by rw [show v1.toNat = 1 from by omega]; exact hGσ2 105 1 (show ¬ (105 = 81 ∨ 105 = 83 ∨ 105 = 85 ∨ 105 = 87) from by omega)
      rcases q9_0 with x4 | x4 | x4 | x4 <;> rcases x3 with x3 | x3 | x3 <;> omega
    · have x3 := q3_3.resolve_left (by omega)
      clear q3_1 q3_2 q3_3 q3_4 s0 s1 s3
      have x1 : σ2 104 v1.toNat = τ 104 2 := by rw [show v1.toNat = 2 from by omega]; exact hGσ2 104 2 (show ¬ (104 = 81 ∨ 104 = 83 ∨ 104 = 85 ∨ 104 = 87) from by omega)
      have x2 : σ2 105 v1.toNat = τ 105 2 := by rw [show v1.toNat = 2 from by omega]; exact hGσ2 105 2 (show ¬ (105 = 81 ∨ 105 = 83 ∨ 105 = 85 ∨ 105 = 87) from by omega)
      rcases q9_0 with x4 | x4 | x4 | x4 <;> rcases x3 with x3 | x3 | x3 <;> omega
    · have x3 := q3_4.resolve_left (by omega)
      clear q3_1 q3_2 q3_3 q3_4 s0 s1 s2
      have x1 : σ2 104 v1.toNat = τ 104 3 := by rw [show v1.toNat = 3 from by omega]; exact hGσ2 104 3 (show ¬ (104 = 81 ∨ 104 = 83 ∨ 104 = 85 ∨ 104 = 87) from by omega)
      have x2 : σ2 105 v1.toNat = τ 105 3 := by rw [show v1.toNat = 3 from by omega]; exact hGσ2 105 3 (show ¬ (105 = 81 ∨ 105 = 83 ∨ 105 = 85 ∨ 105 = 87) from by omega)
      rcases q9_0 with x4 | x4 | x4 | x4 <;> rcases x3 with x3 | x3 | x3 <;> omega
    · clear q3_1 q3_2 q3_3 q3_4 s0 s1 s2 s3
      omega
  have y8 := q9_1
  rw [← rr8] at y8
  have f105 : (0 : Int) ≤ σ2 105 v1.toNat ∧ σ2 105 v1.toNat ≤ 40 := hIσ2 105 _
  have hk8 : r4 = 1 → 0 ≤ v1 ∧ v1 ≤ 3 ∧ 0 ≤ v2 ∧ v2 < 40 := by clear q3_5 q3_6 q3_7 q3_8 q9_1 q3_0 q3_1 q3_2 q3_3 q3_4 y8; omega
  have sh0 : SHK 0 σ8 := SHK_lay (c := 0) (by decide) (stτ.2.2.2.2.2.2.1 0 (by decide)) q3_5 y8 hk8 (fun c j h => hGσ2 c j (show ¬ (c = 81 ∨ c = 83 ∨ c = 85 ∨ c = 87) from by omega)) (fun c j h => hGσ8 c j (show ¬ (c = 106) from by omega))
  have sh1 : SHK 1 σ8 := SHK_lay (c := 1) (by decide) (stτ.2.2.2.2.2.2.1 1 (by decide)) q3_6 y8 hk8 (fun c j h => hGσ2 c j (show ¬ (c = 81 ∨ c = 83 ∨ c = 85 ∨ c = 87) from by omega)) (fun c j h => hGσ8 c j (show ¬ (c = 106) from by omega))
  have sh2 : SHK 2 σ8 := SHK_lay (c := 2) (by decide) (stτ.2.2.2.2.2.2.1 2 (by decide)) q3_7 y8 hk8 (fun c j h => hGσ2 c j (show ¬ (c = 81 ∨ c = 83 ∨ c = 85 ∨ c = 87) from by omega)) (fun c j h => hGσ8 c j (show ¬ (c = 106) from by omega))
  have sh3 : SHK 3 σ8 := SHK_lay (c := 3) (by decide) (stτ.2.2.2.2.2.2.1 3 (by decide)) q3_8 y8 hk8 (fun c j h => hGσ2 c j (show ¬ (c = 81 ∨ c = 83 ∨ c = 85 ∨ c = 87) from by omega)) (fun c j h => hGσ8 c j (show ¬ (c = 106) from by omega))
  have st9 : ST σ8 := ST_S stτ (fun q hq => by rcases (show q = 0 ∨ q = 1 ∨ q = 2 ∨ q = 3 from by omega) with z | z | z | z <;> subst z; exact sh0; exact sh1; exact sh2; exact sh3) (fun c j h => (hGσ8 c j (show ¬ (c = 106) from by omega)).trans (hGσ2 c j (show ¬ (c = 81 ∨ c = 83 ∨ c = 85 ∨ c = 87) from by omega)))
  have rr9 : r4 = r10 := rr8
  clear y8
  clear q3_5 q3_6 q3_7 q3_8 q9_1
  refine j_pop (pc := 1259) dL_law_1259 rfl ?_
  refine j_goto (pc := 1260) (tgt := 1352) dL_law_1260 rfl ?_
  have y15 : σ8 10 10 = τ 10 10 := ((hGσ8 10 10 (show ¬ (10 = 106) from by omega))).trans (hGσ2 10 10 (show ¬ (10 = 81 ∨ 10 = 83 ∨ 10 = 85 ∨ 10 = 87) from by omega))
  have y16 : σ8 88 12 = τ 88 12 := ((hGσ8 88 12 (show ¬ (88 = 106) from by omega))).trans (hGσ2 88 12 (show ¬ (88 = 81 ∨ 88 = 83 ∨ 88 = 85 ∨ 88 = 87) from by omega))
  have f17 : (0 : Int) ≤ τ 88 12 ∧ τ 88 12 ≤ 400 := hIτ 88 12
  have y18 : σ8 0 13 = τ 0 13 := ((hGσ8 0 13 (show ¬ (0 = 106) from by omega))).trans (hGσ2 0 13 (show ¬ (0 = 81 ∨ 0 = 83 ∨ 0 = 85 ∨ 0 = 87) from by omega))
  have f19 : (-2147483648 : Int) ≤ τ 0 13 ∧ τ 0 13 ≤ 2147483647 := hIτ 0 13
  have y20 : σ8 88 17 = τ 88 17 := ((hGσ8 88 17 (show ¬ (88 = 106) from by omega))).trans (hGσ2 88 17 (show ¬ (88 = 81 ∨ 88 = 83 ∨ 88 = 85 ∨ 88 = 87) from by omega))
  have f21 : (0 : Int) ≤ τ 88 17 ∧ τ 88 17 ≤ 5 := hIτ 88 17
  have y22 : σ8 31 6 = τ 31 6 := ((hGσ8 31 6 (show ¬ (31 = 106) from by omega))).trans (hGσ2 31 6 (show ¬ (31 = 81 ∨ 31 = 83 ∨ 31 = 85 ∨ 31 = 87) from by omega))
  have f23 : (0 : Int) ≤ τ 31 6 ∧ τ 31 6 ≤ 1 := hIτ 31 6
  have y24 : σ8 39 6 = τ 39 6 := ((hGσ8 39 6 (show ¬ (39 = 106) from by omega))).trans (hGσ2 39 6 (show ¬ (39 = 81 ∨ 39 = 83 ∨ 39 = 85 ∨ 39 = 87) from by omega))
  have f25 : (0 : Int) ≤ τ 39 6 ∧ τ 39 6 ≤ 1 := hIτ 39 6
  have y26 : σ8 90 0 = τ 90 0 := ((hGσ8 90 0 (show ¬ (90 = 106) from by omega))).trans (hGσ2 90 0 (show ¬ (90 = 81 ∨ 90 = 83 ∨ 90 = 85 ∨ 90 = 87) from by omega))
  have f27 : (0 : Int) ≤ τ 90 0 ∧ τ 90 0 ≤ 1 := hIτ 90 0
  have y28 : σ8 90 1 = τ 90 1 := ((hGσ8 90 1 (show ¬ (90 = 106) from by omega))).trans (hGσ2 90 1 (show ¬ (90 = 81 ∨ 90 = 83 ∨ 90 = 85 ∨ 90 = 87) from by omega))
  have f29 : (0 : Int) ≤ τ 90 1 ∧ τ 90 1 ≤ 1 := hIτ 90 1
  exact K σ8 hIσ8 ⟨mσ8, by omega, sσ8, bσ8, by omega, by omega, by omega, tσ8, st9⟩
set_option maxHeartbeats 4000000 in
set_option maxRecDepth 100000 in
theorem w_case_35 {G : tw_G} (hX : tw_isX G) (hM : tw_isM G) {E : List Frame → Array Value → State → State → Prop} (hN : (gN G : Int) ≤ 2560) (i : Int) (hi : 0 ≤ i ∧ i + 5 ≤ (gN G : Int)) (τ : tw_M) (hIτ : tw_I τ) (hL : tw_LI τ) (K : ∀ τ' : tw_M, tw_I τ' → tw_LI τ' → tw_J G tw_ML E 1352 [(0, vR 300), (1, vR 0), (2, vR 88), (3, vI i)] [] τ') : tw_J G tw_ML E 1263 [(0, vR 300), (1, vR 0), (2, vR 88), (3, vI i)] [] τ := by
  obtain ⟨mτ, zτ, sτ, bτ, fτ, kτ0, kτ1, tτ, stτ⟩ := hL
  have g9 : (0 : Int) ≤ τ 10 10 ∧ τ 10 10 ≤ 400 := hIτ 10 10
  obtain ⟨v1, ev1⟩ : ∃ v : Int, v = (gxs G (i + 1).toNat).toInt := ⟨_, rfl⟩
  have hv1 : (-2147483648 : Int) ≤ v1 ∧ v1 ≤ 2147483647 := by rw [ev1]; exact i32_in _
  obtain ⟨v2, ev2⟩ : ∃ v : Int, v = (gxs G (i + 2).toNat).toInt := ⟨_, rfl⟩
  have hv2 : (-2147483648 : Int) ≤ v2 ∧ v2 ≤ 2147483647 := by rw [ev2]; exact i32_in _
  obtain ⟨v3, ev3⟩ : ∃ v : Int, v = (gxs G (i + 3).toNat).toInt := ⟨_, rfl⟩
  have hv3 : (-2147483648 : Int) ≤ v3 ∧ v3 ≤ 2147483647 := by rw [ev3]; exact i32_in _
  obtain ⟨v4, ev4⟩ : ∃ v : Int, v = (gxs G (i + 4).toNat).toInt := ⟨_, rfl⟩
  have hv4 : (-2147483648 : Int) ≤ v4 ∧ v4 ≤ 2147483647 := by rw [ev4]; exact i32_in _
  refine j_aload_n (pc := 1263) dL_law_1263 rfl rfl ?_
  refine j_aload_n (pc := 1264) dL_law_1264 rfl rfl ?_
  refine j_iload_n (pc := 1265) dL_law_1265 rfl rfl ?_
  refine j_iconst (pc := 1266) dL_law_1266 ?_
  refine j_iadd (pc := 1267) dL_law_1267 ?_
  refine j_scrAt (pc := 1268) dL_law_1268 (by omega) (by omega) (by omega) ?_
  refine j_topV (show _ = v1 from ev1.symm) ?_
  refine j_aload_n (pc := 1269) dL_law_1269 rfl rfl ?_
  refine j_iload_n (pc := 1270) dL_law_1270 rfl rfl ?_
  refine j_iconst (pc := 1271) dL_law_1271 ?_
  refine j_iadd (pc := 1272) dL_law_1272 ?_
  refine j_scrAt (pc := 1273) dL_law_1273 (by omega) (by omega) (by omega) ?_
  refine j_topV (show _ = v2 from ev2.symm) ?_
  refine j_aload_n (pc := 1274) dL_law_1274 rfl rfl ?_
  refine j_iload_n (pc := 1275) dL_law_1275 rfl rfl ?_
  refine j_iconst (pc := 1276) dL_law_1276 ?_
  refine j_iadd (pc := 1277) dL_law_1277 ?_
  refine j_scrAt (pc := 1278) dL_law_1278 (by omega) (by omega) (by omega) ?_
  refine j_topV (show _ = v3 from ev3.symm) ?_
  refine j_aload_n (pc := 1279) dL_law_1279 rfl rfl ?_
  refine j_iload_n (pc := 1280) dL_law_1280 rfl rfl ?_
  refine j_iconst (pc := 1281) dL_law_1281 ?_
  refine j_iadd (pc := 1282) dL_law_1282 ?_
  refine j_scrAt (pc := 1283) dL_law_1283 (by omega) (by omega) (by omega) ?_
  refine j_topV (show _ = v4 from ev4.symm) ?_
  refine j_callV (pc := 1284) (As := [vI v1, vI v2, vI v3, vI v4]) (st := []) (c_X11_read hX v1 ⟨by omega, by omega⟩ v2 ⟨by omega, by omega⟩ v3 ⟨by omega, by omega⟩ v4 ⟨by omega, by omega⟩ τ hIτ) mv_L_165 rfl rfl rfl (a_0 hX) dL_law_1284 ⟨Nat.le_of_ble_eq_true rfl, Nat.le_of_ble_eq_true rfl⟩ ⟨Nat.le_of_ble_eq_true rfl, Nat.le_of_ble_eq_true rfl⟩ rfl (Nat.le_of_ble_eq_true rfl) rfl (fun z1 σ2 hz1 => ?_)
  obtain ⟨r4, rfl, hr4, hIσ2, hGσ2, q3_0, q3_1, q3_2, q3_3, q3_4, q3_5, q3_6⟩ := hz1
  replace q3_0 : σ2 29 0 = τ 29 0 := q3_0
  replace q3_1 : σ2 30 0 = τ 30 0 := q3_1
  replace q3_2 : σ2 29 1 = τ 29 1 := q3_2
  replace q3_3 : σ2 30 1 = τ 30 1 := q3_3
  replace q3_4 : ∀ gg qq rk : Nat → Int, RG 24 gg qq τ → CNR rk gg 28 τ → (r4 = -1 ∧ ¬ (0 ≤ v1 ∧ v1 ≤ 3 ∧ 0 ≤ v2 ∧ v2 ≤ 2 ∧ 0 ≤ v4 ∧ v4 ≤ 10) ∧ ∀ c j, σ2 c j = τ c j) ∨ ((0 ≤ v1 ∧ v1 ≤ 3 ∧ 0 ≤ v2 ∧ v2 ≤ 2 ∧ 0 ≤ v4 ∧ v4 ≤ 10) ∧ ∃ cz : Int, ((cz = 0 ∧ 0 < v4 ∧ r4 = 0 ∧ σ2 0 14 = 1 ∧ τ (80 + 2 * v1.toNat) 1 = 0) ∨ (cz = 0 ∧ 0 < v4 ∧ r4 = 0 ∧ σ2 0 14 = 3 ∧ ¬ τ (80 + 2 * v1.toNat) 1 = 0 ∧ ¬ τ (80 + 2 * v1.toNat) 2 = v2) ∨ ((v4 = 0 ∨ (¬ τ (80 + 2 * v1.toNat) 1 = 0 ∧ τ (80 + 2 * v1.toNat) 2 = v2)) ∧ RDE (rdF (τ (80 + 2 * v1.toNat) 3) v3) (fun x => rdO (wW 1 τ) rk (CC (81 + 2 * v1.toNat) τ) v3 gg x = 0) v4 cz r4 (σ2 0 14))) ∧ ((0 ≤ r4 ∧ RDX rk (CC (81 + 2 * v1.toNat) τ) v3 gg qq cz.toNat σ2) ∨ (r4 < 0 ∧ RDX rk (CC (81 + 2 * v1.toNat) τ) v3 gg qq 0 σ2 ∧ σ2 0 14 = τ 0 14))) := q3_4
  replace q3_5 : σ2 23 4 = τ 23 4 := q3_5
  replace q3_6 : σ2 23 5 = τ 23 5 := q3_6
  refine j_st (st' := [vI r4]) rfl ?_
  have y5 : σ2 10 10 = τ 10 10 := (hGσ2 10 10 (show ¬ ((23 ≤ 10 ∧ 10 < 31) ∨ (47 ≤ 10 ∧ 10 < 55) ∨ (10 = 0 ∧ (10 = 14))) from by omega))
  have f6 : (0 : Int) ≤ τ 10 10 ∧ τ 10 10 ≤ 400 := hIτ 10 10
  have bσ2 : BY σ2 := BY_kept bτ (fun j => hGσ2 11 j (show ¬ ((23 ≤ 11 ∧ 11 < 31) ∨ (47 ≤ 11 ∧ 11 < 55) ∨ (11 = 0 ∧ (j = 14))) from by omega)) (fun j => hGσ2 98 j (show ¬ ((23 ≤ 98 ∧ 98 < 31) ∨ (47 ≤ 98 ∧ 98 < 55) ∨ (98 = 0 ∧ (j = 14))) from by omega)) (by omega)
  have mσ2 : mI σ2 := mI_kept mτ (fun j hj => hGσ2 89 j (show ¬ ((23 ≤ 89 ∧ 89 < 31) ∨ (47 ≤ 89 ∧ 89 < 55) ∨ (89 = 0 ∧ (j = 14))) from by omega)) (fun j => hGσ2 90 j (show ¬ ((23 ≤ 90 ∧ 90 < 31) ∨ (47 ≤ 90 ∧ 90 < 55) ∨ (90 = 0 ∧ (j = 14))) from by omega)) (hGσ2 91 0 (show ¬ ((23 ≤ 91 ∧ 91 < 31) ∨ (47 ≤ 91 ∧ 91 < 55) ∨ (91 = 0 ∧ (0 = 14))) from by omega)) hIτ
  have sσ2 : SR σ2 := SR_kept sτ (fun c j h => hGσ2 c j (show ¬ ((23 ≤ c ∧ c < 31) ∨ (47 ≤ c ∧ c < 55) ∨ (c = 0 ∧ (j = 14))) from by omega)) (fun j => hGσ2 104 j (show ¬ ((23 ≤ 104 ∧ 104 < 31) ∨ (47 ≤ 104 ∧ 104 < 55) ∨ (104 = 0 ∧ (j = 14))) from by omega)) (fun j => hGσ2 105 j (show ¬ ((23 ≤ 105 ∧ 105 < 31) ∨ (47 ≤ 105 ∧ 105 < 55) ∨ (105 = 0 ∧ (j = 14))) from by omega))
  refine j_pop (pc := 1287) dL_law_1287 rfl ?_
  refine j_aload_n (pc := 1288) dL_law_1288 rfl rfl ?_
  refine j_aload_n (pc := 1289) dL_law_1289 rfl rfl ?_
  refine j_iload_n (pc := 1290) dL_law_1290 rfl rfl ?_
  refine j_iconst (pc := 1291) dL_law_1291 ?_
  refine j_iadd (pc := 1292) dL_law_1292 ?_
  refine j_scrAt (pc := 1293) dL_law_1293 (by omega) (by omega) (by omega) ?_
  refine j_topV (show _ = v1 from ev1.symm) ?_
  refine j_aload_n (pc := 1294) dL_law_1294 rfl rfl ?_
  refine j_iload_n (pc := 1295) dL_law_1295 rfl rfl ?_
  refine j_iconst (pc := 1296) dL_law_1296 ?_
  refine j_iadd (pc := 1297) dL_law_1297 ?_
  refine j_scrAt (pc := 1298) dL_law_1298 (by omega) (by omega) (by omega) ?_
  refine j_topV (show _ = v2 from ev2.symm) ?_
  refine j_aload_n (pc := 1299) dL_law_1299 rfl rfl ?_
  refine j_iload_n (pc := 1300) dL_law_1300 rfl rfl ?_
  refine j_iconst (pc := 1301) dL_law_1301 ?_
  refine j_iadd (pc := 1302) dL_law_1302 ?_
  refine j_scrAt (pc := 1303) dL_law_1303 (by omega) (by omega) (by omega) ?_
  refine j_topV (show _ = v3 from ev3.symm) ?_
  refine j_aload_n (pc := 1304) dL_law_1304 rfl rfl ?_
  refine j_iload_n (pc := 1305) dL_law_1305 rfl rfl ?_
  refine j_iconst (pc := 1306) dL_law_1306 ?_
  refine j_iadd (pc := 1307) dL_law_1307 ?_
  refine j_scrAt (pc := 1308) dL_law_1308 (by omega) (by omega) (by omega) ?_
  refine j_topV (show _ = v4 from ev4.symm) ?_
  refine j_callV (pc := 1309) (As := [vI v1, vI v2, vI v3, vI v4]) (st := []) (c_X12_read hM v1 ⟨by omega, by omega⟩ v2 ⟨by omega, by omega⟩ v3 ⟨by omega, by omega⟩ v4 ⟨by omega, by omega⟩ σ2 hIσ2 mσ2) mv_L_169 rfl rfl rfl (a_88 hM) dL_law_1309 ⟨Nat.le_of_ble_eq_true rfl, Nat.le_of_ble_eq_true rfl⟩ ⟨Nat.le_of_ble_eq_true rfl, Nat.le_of_ble_eq_true rfl⟩ rfl (Nat.le_of_ble_eq_true rfl) rfl (fun z7 σ8 hz7 => ?_)
  obtain ⟨r10, rfl, hr10, hIσ8, hGσ8, q9_0, q9_1, q9_2, q9_3, q9_4, q9_5⟩ := hz7
  replace q9_0 : mI σ8 := q9_0
  replace q9_1 : σ8 89 93 = σ2 89 93 := q9_1
  have y11 : σ2 89 93 = τ 89 93 := (hGσ2 89 93 (show ¬ ((23 ≤ 89 ∧ 89 < 31) ∨ (47 ≤ 89 ∧ 89 < 55) ∨ (89 = 0 ∧ (93 = 14))) from by omega))
  have f12 : (0 : Int) ≤ τ 89 93 ∧ τ 89 93 ≤ 999 := hIτ 89 93
  replace q9_2 : σ8 89 94 = σ2 89 94 := q9_2
  have y13 : σ2 89 94 = τ 89 94 := (hGσ2 89 94 (show ¬ ((23 ≤ 89 ∧ 89 < 31) ∨ (47 ≤ 89 ∧ 89 < 55) ∨ (89 = 0 ∧ (94 = 14))) from by omega))
  have f14 : (-2147483648 : Int) ≤ τ 89 94 ∧ τ 89 94 ≤ 2147483647 := hIτ 89 94
  replace q9_3 : σ8 89 95 = σ2 89 95 := q9_3
  have y15 : σ2 89 95 = τ 89 95 := (hGσ2 89 95 (show ¬ ((23 ≤ 89 ∧ 89 < 31) ∨ (47 ≤ 89 ∧ 89 < 55) ∨ (89 = 0 ∧ (95 = 14))) from by omega))
  have f16 : (0 : Int) ≤ τ 89 95 ∧ τ 89 95 ≤ 999 := hIτ 89 95
  replace q9_4 : σ8 89 96 = σ2 89 96 := q9_4
  have y17 : σ2 89 96 = τ 89 96 := (hGσ2 89 96 (show ¬ ((23 ≤ 89 ∧ 89 < 31) ∨ (47 ≤ 89 ∧ 89 < 55) ∨ (89 = 0 ∧ (96 = 14))) from by omega))
  have f18 : (-2147483648 : Int) ≤ τ 89 96 ∧ τ 89 96 ≤ 2147483647 := hIτ 89 96
  replace q9_5 : ∀ rk : Nat → Int, MOB rk 0 σ2 → (r10 = -1 ∧ ¬ (0 ≤ v1 ∧ v1 ≤ 3 ∧ 0 ≤ v2 ∧ v2 ≤ 2 ∧ 0 ≤ v4 ∧ v4 ≤ 10) ∧ ∀ c j, σ8 c j = σ2 c j) ∨ ((0 ≤ v1 ∧ v1 ≤ 3 ∧ 0 ≤ v2 ∧ v2 ≤ 2 ∧ 0 ≤ v4 ∧ v4 ≤ 10) ∧ ∃ cz : Int, ((cz = 0 ∧ 0 < v4 ∧ r10 = 0 ∧ σ8 88 38 = 1 ∧ σ2 104 v1.toNat = -4) ∨ (cz = 0 ∧ 0 < v4 ∧ r10 = 0 ∧ σ8 88 38 = 3 ∧ ¬ σ2 104 v1.toNat = -4 ∧ ¬ σ2 104 v1.toNat = v2) ∨ ((v4 = 0 ∨ (¬ σ2 104 v1.toNat = -4 ∧ σ2 104 v1.toNat = v2)) ∧ RDE (rdF (σ2 105 v1.toNat) v3) (fun x => rdO (wM σ2) rk (CM v1 σ2) v3 (gM 0 σ2) x = 0) v4 cz r10 (σ8 88 38))) ∧ ((0 ≤ r10 ∧ RDM rk (CM v1 σ2) v3 cz.toNat σ2 σ8) ∨ (r10 < 0 ∧ RDM rk (CM v1 σ2) v3 0 σ2 σ8 ∧ σ8 88 38 = σ2 88 38))) := q9_5
  have y19 : σ2 104 (v1.toNat) = τ 104 (v1.toNat) := (hGσ2 104 (v1.toNat) (show ¬ ((23 ≤ 104 ∧ 104 < 31) ∨ (47 ≤ 104 ∧ 104 < 55) ∨ (104 = 0 ∧ (v1.toNat = 14))) from by omega))
  have y20 : σ2 105 (v1.toNat) = τ 105 (v1.toNat) := (hGσ2 105 (v1.toNat) (show ¬ ((23 ≤ 105 ∧ 105 < 31) ∨ (47 ≤ 105 ∧ 105 < 55) ∨ (105 = 0 ∧ (v1.toNat = 14))) from by omega))
  have y21 : σ2 88 38 = τ 88 38 := (hGσ2 88 38 (show ¬ ((23 ≤ 88 ∧ 88 < 31) ∨ (47 ≤ 88 ∧ 88 < 55) ∨ (88 = 0 ∧ (38 = 14))) from by omega))
  have f22 : (-2147483648 : Int) ≤ τ 88 38 ∧ τ 88 38 ≤ 2147483647 := hIτ 88 38
  refine j_st (st' := [vI r10]) rfl ?_
  have y23 : σ8 10 10 = τ 10 10 := ((hGσ8 10 10 (show ¬ ((10 = 88 ∧ (10 = 38)) ∨ (10 = 89 ∧ (10 < 100 ∨ 300 ≤ 10))) from by omega))).trans (hGσ2 10 10 (show ¬ ((23 ≤ 10 ∧ 10 < 31) ∨ (47 ≤ 10 ∧ 10 < 55) ∨ (10 = 0 ∧ (10 = 14))) from by omega))
  have bσ8 : BY σ8 := BY_kept bσ2 (fun j => hGσ8 11 j (show ¬ ((11 = 88 ∧ (j = 38)) ∨ (11 = 89 ∧ (j < 100 ∨ 300 ≤ j))) from by omega)) (fun j => hGσ8 98 j (show ¬ ((98 = 88 ∧ (j = 38)) ∨ (98 = 89 ∧ (j < 100 ∨ 300 ≤ j))) from by omega)) (by omega)
  have mσ8 : mI σ8 := q9_0
  have sσ8 : SR σ8 := SR_kept sσ2 (fun c j h => hGσ8 c j (show ¬ ((c = 88 ∧ (j = 38)) ∨ (c = 89 ∧ (j < 100 ∨ 300 ≤ j))) from by omega)) (fun j => hGσ8 104 j (show ¬ ((104 = 88 ∧ (j = 38)) ∨ (104 = 89 ∧ (j < 100 ∨ 300 ≤ j))) from by omega)) (fun j => hGσ8 105 j (show ¬ ((105 = 88 ∧ (j = 38)) ∨ (105 = 89 ∧ (j < 100 ∨ 300 ≤ j))) from by omega))
  have ht9 : (1 : Int) ≤ τ 91 0 ∧ τ 91 0 ≤ 40 := hIτ 91 0
  have st9 := ST_read stτ (fun hk => by
    obtain ⟨s0, s1, s2, s3⟩ := sτ
    rcases (show v1 = 0 ∨ v1 = 1 ∨ v1 = 2 ∨ v1 = 3 by omega) with q9 | q9 | q9 | q9 <;> rw [q9]
    · exact s0
    · exact s1
    · exact s2
    · exact s3
    ) q3_4 q9_5 q3_5 q3_6 (fun c j h1 h2 h3 => hGσ2 c j (show ¬ ((23 ≤ c ∧ c < 31) ∨ (47 ≤ c ∧ c < 55) ∨ (c = 0 ∧ (j = 14))) from by omega)) (fun c j h1 h2 => hGσ8 c j (show ¬ ((c = 88 ∧ (j = 38)) ∨ (c = 89 ∧ (j < 100 ∨ 300 ≤ j))) from by omega))
  have rr9 := st9.2
  clear q3_4 q9_5
  refine j_pop (pc := 1312) dL_law_1312 rfl ?_
  refine j_goto (pc := 1313) (tgt := 1352) dL_law_1313 rfl ?_
  have y24 : σ8 10 10 = τ 10 10 := ((hGσ8 10 10 (show ¬ ((10 = 88 ∧ (10 = 38)) ∨ (10 = 89 ∧ (10 < 100 ∨ 300 ≤ 10))) from by omega))).trans (hGσ2 10 10 (show ¬ ((23 ≤ 10 ∧ 10 < 31) ∨ (47 ≤ 10 ∧ 10 < 55) ∨ (10 = 0 ∧ (10 = 14))) from by omega))
  have y25 : σ8 88 12 = τ 88 12 := ((hGσ8 88 12 (show ¬ ((88 = 88 ∧ (12 = 38)) ∨ (88 = 89 ∧ (12 < 100 ∨ 300 ≤ 12))) from by omega))).trans (hGσ2 88 12 (show ¬ ((23 ≤ 88 ∧ 88 < 31) ∨ (47 ≤ 88 ∧ 88 < 55) ∨ (88 = 0 ∧ (12 = 14))) from by omega))
  have f26 : (0 : Int) ≤ τ 88 12 ∧ τ 88 12 ≤ 400 := hIτ 88 12
  have y27 : σ8 0 13 = τ 0 13 := ((hGσ8 0 13 (show ¬ ((0 = 88 ∧ (13 = 38)) ∨ (0 = 89 ∧ (13 < 100 ∨ 300 ≤ 13))) from by omega))).trans (hGσ2 0 13 (show ¬ ((23 ≤ 0 ∧ 0 < 31) ∨ (47 ≤ 0 ∧ 0 < 55) ∨ (0 = 0 ∧ (13 = 14))) from by omega))
  have f28 : (-2147483648 : Int) ≤ τ 0 13 ∧ τ 0 13 ≤ 2147483647 := hIτ 0 13
  have y29 : σ8 88 17 = τ 88 17 := ((hGσ8 88 17 (show ¬ ((88 = 88 ∧ (17 = 38)) ∨ (88 = 89 ∧ (17 < 100 ∨ 300 ≤ 17))) from by omega))).trans (hGσ2 88 17 (show ¬ ((23 ≤ 88 ∧ 88 < 31) ∨ (47 ≤ 88 ∧ 88 < 55) ∨ (88 = 0 ∧ (17 = 14))) from by omega))
  have f30 : (0 : Int) ≤ τ 88 17 ∧ τ 88 17 ≤ 5 := hIτ 88 17
  have y31 : σ8 31 6 = τ 31 6 := ((hGσ8 31 6 (show ¬ ((31 = 88 ∧ (6 = 38)) ∨ (31 = 89 ∧ (6 < 100 ∨ 300 ≤ 6))) from by omega))).trans (hGσ2 31 6 (show ¬ ((23 ≤ 31 ∧ 31 < 31) ∨ (47 ≤ 31 ∧ 31 < 55) ∨ (31 = 0 ∧ (6 = 14))) from by omega))
  have f32 : (0 : Int) ≤ τ 31 6 ∧ τ 31 6 ≤ 1 := hIτ 31 6
  have y33 : σ8 39 6 = τ 39 6 := ((hGσ8 39 6 (show ¬ ((39 = 88 ∧ (6 = 38)) ∨ (39 = 89 ∧ (6 < 100 ∨ 300 ≤ 6))) from by omega))).trans (hGσ2 39 6 (show ¬ ((23 ≤ 39 ∧ 39 < 31) ∨ (47 ≤ 39 ∧ 39 < 55) ∨ (39 = 0 ∧ (6 = 14))) from by omega))
  have f34 : (0 : Int) ≤ τ 39 6 ∧ τ 39 6 ≤ 1 := hIτ 39 6
  have y35 : σ8 90 0 = τ 90 0 := ((hGσ8 90 0 (show ¬ ((90 = 88 ∧ (0 = 38)) ∨ (90 = 89 ∧ (0 < 100 ∨ 300 ≤ 0))) from by omega))).trans (hGσ2 90 0 (show ¬ ((23 ≤ 90 ∧ 90 < 31) ∨ (47 ≤ 90 ∧ 90 < 55) ∨ (90 = 0 ∧ (0 = 14))) from by omega))
  have f36 : (0 : Int) ≤ τ 90 0 ∧ τ 90 0 ≤ 1 := hIτ 90 0
  have y37 : σ8 90 1 = τ 90 1 := ((hGσ8 90 1 (show ¬ ((90 = 88 ∧ (1 = 38)) ∨ (90 = 89 ∧ (1 < 100 ∨ 300 ≤ 1))) from by omega))).trans (hGσ2 90 1 (show ¬ ((23 ≤ 90 ∧ 90 < 31) ∨ (47 ≤ 90 ∧ 90 < 55) ∨ (90 = 0 ∧ (1 = 14))) from by omega))
  have f38 : (0 : Int) ≤ τ 90 1 ∧ τ 90 1 ≤ 1 := hIτ 90 1
  obtain ⟨t0, t1, t2, t3, t4, t5, t6, t7, t8, t9, t10, t11, t12, t13, t14, t15, t16, t17⟩ := tτ
  have y39 : σ8 29 0 = σ2 29 0 := (hGσ8 29 0 (show ¬ ((29 = 88 ∧ (0 = 38)) ∨ (29 = 89 ∧ (0 < 100 ∨ 300 ≤ 0))) from by omega))
  have f40 : (0 : Int) ≤ σ2 29 0 ∧ σ2 29 0 ≤ 999 := hIσ2 29 0
  have y41 : σ8 30 0 = σ2 30 0 := (hGσ8 30 0 (show ¬ ((30 = 88 ∧ (0 = 38)) ∨ (30 = 89 ∧ (0 < 100 ∨ 300 ≤ 0))) from by omega))
  have f42 : (-2147483648 : Int) ≤ σ2 30 0 ∧ σ2 30 0 ≤ 2147483647 := hIσ2 30 0
  have y43 : σ8 29 1 = σ2 29 1 := (hGσ8 29 1 (show ¬ ((29 = 88 ∧ (1 = 38)) ∨ (29 = 89 ∧ (1 < 100 ∨ 300 ≤ 1))) from by omega))
  have f44 : (0 : Int) ≤ σ2 29 1 ∧ σ2 29 1 ≤ 999 := hIσ2 29 1
  have y45 : σ8 30 1 = σ2 30 1 := (hGσ8 30 1 (show ¬ ((30 = 88 ∧ (1 = 38)) ∨ (30 = 89 ∧ (1 < 100 ∨ 300 ≤ 1))) from by omega))
  have f46 : (-2147483648 : Int) ≤ σ2 30 1 ∧ σ2 30 1 ≤ 2147483647 := hIσ2 30 1
  have y47 : σ8 37 0 = τ 37 0 := ((hGσ8 37 0 (show ¬ ((37 = 88 ∧ (0 = 38)) ∨ (37 = 89 ∧ (0 < 100 ∨ 300 ≤ 0))) from by omega))).trans (hGσ2 37 0 (show ¬ ((23 ≤ 37 ∧ 37 < 31) ∨ (47 ≤ 37 ∧ 37 < 55) ∨ (37 = 0 ∧ (0 = 14))) from by omega))
  have f48 : (0 : Int) ≤ τ 37 0 ∧ τ 37 0 ≤ 999 := hIτ 37 0
  have y49 : σ8 38 0 = τ 38 0 := ((hGσ8 38 0 (show ¬ ((38 = 88 ∧ (0 = 38)) ∨ (38 = 89 ∧ (0 < 100 ∨ 300 ≤ 0))) from by omega))).trans (hGσ2 38 0 (show ¬ ((23 ≤ 38 ∧ 38 < 31) ∨ (47 ≤ 38 ∧ 38 < 55) ∨ (38 = 0 ∧ (0 = 14))) from by omega))
  have f50 : (-2147483648 : Int) ≤ τ 38 0 ∧ τ 38 0 ≤ 2147483647 := hIτ 38 0
  have y51 : σ8 37 1 = τ 37 1 := ((hGσ8 37 1 (show ¬ ((37 = 88 ∧ (1 = 38)) ∨ (37 = 89 ∧ (1 < 100 ∨ 300 ≤ 1))) from by omega))).trans (hGσ2 37 1 (show ¬ ((23 ≤ 37 ∧ 37 < 31) ∨ (47 ≤ 37 ∧ 37 < 55) ∨ (37 = 0 ∧ (1 = 14))) from by omega))
  have f52 : (0 : Int) ≤ τ 37 1 ∧ τ 37 1 ≤ 999 := hIτ 37 1
  have y53 : σ8 38 1 = τ 38 1 := ((hGσ8 38 1 (show ¬ ((38 = 88 ∧ (1 = 38)) ∨ (38 = 89 ∧ (1 < 100 ∨ 300 ≤ 1))) from by omega))).trans (hGσ2 38 1 (show ¬ ((23 ≤ 38 ∧ 38 < 31) ∨ (47 ≤ 38 ∧ 38 < 55) ∨ (38 = 0 ∧ (1 = 14))) from by omega))
  have f54 : (-2147483648 : Int) ≤ τ 38 1 ∧ τ 38 1 ≤ 2147483647 := hIτ 38 1
  have y55 : σ8 45 0 = τ 45 0 := ((hGσ8 45 0 (show ¬ ((45 = 88 ∧ (0 = 38)) ∨ (45 = 89 ∧ (0 < 100 ∨ 300 ≤ 0))) from by omega))).trans (hGσ2 45 0 (show ¬ ((23 ≤ 45 ∧ 45 < 31) ∨ (47 ≤ 45 ∧ 45 < 55) ∨ (45 = 0 ∧ (0 = 14))) from by omega))
  have f56 : (0 : Int) ≤ τ 45 0 ∧ τ 45 0 ≤ 999 := hIτ 45 0
  have y57 : σ8 46 0 = τ 46 0 := ((hGσ8 46 0 (show ¬ ((46 = 88 ∧ (0 = 38)) ∨ (46 = 89 ∧ (0 < 100 ∨ 300 ≤ 0))) from by omega))).trans (hGσ2 46 0 (show ¬ ((23 ≤ 46 ∧ 46 < 31) ∨ (47 ≤ 46 ∧ 46 < 55) ∨ (46 = 0 ∧ (0 = 14))) from by omega))
  have f58 : (-2147483648 : Int) ≤ τ 46 0 ∧ τ 46 0 ≤ 2147483647 := hIτ 46 0
  have y59 : σ8 45 1 = τ 45 1 := ((hGσ8 45 1 (show ¬ ((45 = 88 ∧ (1 = 38)) ∨ (45 = 89 ∧ (1 < 100 ∨ 300 ≤ 1))) from by omega))).trans (hGσ2 45 1 (show ¬ ((23 ≤ 45 ∧ 45 < 31) ∨ (47 ≤ 45 ∧ 45 < 55) ∨ (45 = 0 ∧ (1 = 14))) from by omega))
  have f60 : (0 : Int) ≤ τ 45 1 ∧ τ 45 1 ≤ 999 := hIτ 45 1
  have y61 : σ8 46 1 = τ 46 1 := ((hGσ8 46 1 (show ¬ ((46 = 88 ∧ (1 = 38)) ∨ (46 = 89 ∧ (1 < 100 ∨ 300 ≤ 1))) from by omega))).trans (hGσ2 46 1 (show ¬ ((23 ≤ 46 ∧ 46 < 31) ∨ (47 ≤ 46 ∧ 46 < 55) ∨ (46 = 0 ∧ (1 = 14))) from by omega))
  have f62 : (-2147483648 : Int) ≤ τ 46 1 ∧ τ 46 1 ≤ 2147483647 := hIτ 46 1
  have u193 : σ8 89 193 = τ 89 193 := ((hGσ8 89 193 (show ¬ ((89 = 88 ∧ (193 = 38)) ∨ (89 = 89 ∧ (193 < 100 ∨ 300 ≤ 193))) from by omega))).trans (hGσ2 89 193 (show ¬ ((23 ≤ 89 ∧ 89 < 31) ∨ (47 ≤ 89 ∧ 89 < 55) ∨ (89 = 0 ∧ (193 = 14))) from by omega))
  have u194 : σ8 89 194 = τ 89 194 := ((hGσ8 89 194 (show ¬ ((89 = 88 ∧ (194 = 38)) ∨ (89 = 89 ∧ (194 < 100 ∨ 300 ≤ 194))) from by omega))).trans (hGσ2 89 194 (show ¬ ((23 ≤ 89 ∧ 89 < 31) ∨ (47 ≤ 89 ∧ 89 < 55) ∨ (89 = 0 ∧ (194 = 14))) from by omega))
  have u195 : σ8 89 195 = τ 89 195 := ((hGσ8 89 195 (show ¬ ((89 = 88 ∧ (195 = 38)) ∨ (89 = 89 ∧ (195 < 100 ∨ 300 ≤ 195))) from by omega))).trans (hGσ2 89 195 (show ¬ ((23 ≤ 89 ∧ 89 < 31) ∨ (47 ≤ 89 ∧ 89 < 55) ∨ (89 = 0 ∧ (195 = 14))) from by omega))
  have u196 : σ8 89 196 = τ 89 196 := ((hGσ8 89 196 (show ¬ ((89 = 88 ∧ (196 = 38)) ∨ (89 = 89 ∧ (196 < 100 ∨ 300 ≤ 196))) from by omega))).trans (hGσ2 89 196 (show ¬ ((23 ≤ 89 ∧ 89 < 31) ∨ (47 ≤ 89 ∧ 89 < 55) ∨ (89 = 0 ∧ (196 = 14))) from by omega))
  have u293 : σ8 89 293 = τ 89 293 := ((hGσ8 89 293 (show ¬ ((89 = 88 ∧ (293 = 38)) ∨ (89 = 89 ∧ (293 < 100 ∨ 300 ≤ 293))) from by omega))).trans (hGσ2 89 293 (show ¬ ((23 ≤ 89 ∧ 89 < 31) ∨ (47 ≤ 89 ∧ 89 < 55) ∨ (89 = 0 ∧ (293 = 14))) from by omega))
  have u294 : σ8 89 294 = τ 89 294 := ((hGσ8 89 294 (show ¬ ((89 = 88 ∧ (294 = 38)) ∨ (89 = 89 ∧ (294 < 100 ∨ 300 ≤ 294))) from by omega))).trans (hGσ2 89 294 (show ¬ ((23 ≤ 89 ∧ 89 < 31) ∨ (47 ≤ 89 ∧ 89 < 55) ∨ (89 = 0 ∧ (294 = 14))) from by omega))
  have u295 : σ8 89 295 = τ 89 295 := ((hGσ8 89 295 (show ¬ ((89 = 88 ∧ (295 = 38)) ∨ (89 = 89 ∧ (295 < 100 ∨ 300 ≤ 295))) from by omega))).trans (hGσ2 89 295 (show ¬ ((23 ≤ 89 ∧ 89 < 31) ∨ (47 ≤ 89 ∧ 89 < 55) ∨ (89 = 0 ∧ (295 = 14))) from by omega))
  have u296 : σ8 89 296 = τ 89 296 := ((hGσ8 89 296 (show ¬ ((89 = 88 ∧ (296 = 38)) ∨ (89 = 89 ∧ (296 < 100 ∨ 300 ≤ 296))) from by omega))).trans (hGσ2 89 296 (show ¬ ((23 ≤ 89 ∧ 89 < 31) ∨ (47 ≤ 89 ∧ 89 < 55) ∨ (89 = 0 ∧ (296 = 14))) from by omega))
  exact K σ8 hIσ8 ⟨mσ8, by omega, sσ8, bσ8, by omega, by omega, by omega, ⟨by clear t1 t2 t3 t5 t6 t7 t9 t10 t11 t12 t13 t14 t15 t16 t17 q3_1 q3_2 q3_3 q3_4 q3_5 q3_6 q9_2 q9_3 q9_4 q9_5; omega, by clear t0 t2 t3 t4 t6 t7 t8 t10 t11 t12 t13 t14 t15 t16 t17 q3_0 q3_2 q3_3 q3_4 q3_5 q3_6 q9_1 q9_3 q9_4 q9_5; omega, by clear t0 t1 t3 t4 t5 t7 t8 t9 t11 t12 t13 t14 t15 t16 t17 q3_0 q3_1 q3_3 q3_4 q3_5 q3_6 q9_1 q9_2 q9_4 q9_5; omega, by clear t0 t1 t2 t4 t5 t6 t8 t9 t10 t12 t13 t14 t15 t16 t17 q3_0 q3_1 q3_2 q3_4 q3_5 q3_6 q9_1 q9_2 q9_3 q9_5; omega, by clear t1 t2 t3 t5 t6 t7 t9 t10 t11 t12 t13 t14 t15 t16 t17 q3_0 q3_1 q3_2 q3_3 q3_4 q3_5 q3_6 q9_1 q9_2 q9_3 q9_4 q9_5; omega, by clear t0 t2 t3 t4 t6 t7 t8 t10 t11 t12 t13 t14 t15 t16 t17 q3_0 q3_1 q3_2 q3_3 q3_4 q3_5 q3_6 q9_1 q9_2 q9_3 q9_4 q9_5; omega, by clear t0 t1 t3 t4 t5 t7 t8 t9 t11 t12 t13 t14 t15 t16 t17 q3_0 q3_1 q3_2 q3_3 q3_4 q3_5 q3_6 q9_1 q9_2 q9_3 q9_4 q9_5; omega, by clear t0 t1 t2 t4 t5 t6 t8 t9 t10 t12 t13 t14 t15 t16 t17 q3_0 q3_1 q3_2 q3_3 q3_4 q3_5 q3_6 q9_1 q9_2 q9_3 q9_4 q9_5; omega, by clear t1 t2 t3 t5 t6 t7 t9 t10 t11 t12 t13 t14 t15 t16 t17 q3_0 q3_1 q3_2 q3_3 q3_4 q3_5 q3_6 q9_1 q9_2 q9_3 q9_4 q9_5; omega, by clear t0 t2 t3 t4 t6 t7 t8 t10 t11 t12 t13 t14 t15 t16 t17 q3_0 q3_1 q3_2 q3_3 q3_4 q3_5 q3_6 q9_1 q9_2 q9_3 q9_4 q9_5; omega, by clear t0 t1 t3 t4 t5 t7 t8 t9 t11 t12 t13 t14 t15 t16 t17 q3_0 q3_1 q3_2 q3_3 q3_4 q3_5 q3_6 q9_1 q9_2 q9_3 q9_4 q9_5; omega, by clear t0 t1 t2 t4 t5 t6 t8 t9 t10 t12 t13 t14 t15 t16 t17 q3_0 q3_1 q3_2 q3_3 q3_4 q3_5 q3_6 q9_1 q9_2 q9_3 q9_4 q9_5; omega, by clear t2 t3 t6 t7 t10 t11 t13 t15 t17 q3_2 q3_3 q3_4 q3_5 q3_6 q9_3 q9_4 q9_5; omega, by clear t0 t1 t4 t5 t8 t9 t12 t14 t16 q3_0 q3_1 q3_4 q3_5 q3_6 q9_1 q9_2 q9_5; omega, by clear t2 t3 t6 t7 t10 t11 t13 t15 t17 q3_0 q3_1 q3_2 q3_3 q3_4 q3_5 q3_6 q9_1 q9_2 q9_3 q9_4 q9_5; omega, by clear t0 t1 t4 t5 t8 t9 t12 t14 t16 q3_0 q3_1 q3_2 q3_3 q3_4 q3_5 q3_6 q9_1 q9_2 q9_3 q9_4 q9_5; omega, by clear t2 t3 t6 t7 t10 t11 t13 t15 t17 q3_0 q3_1 q3_2 q3_3 q3_4 q3_5 q3_6 q9_1 q9_2 q9_3 q9_4 q9_5; omega, by clear t0 t1 t4 t5 t8 t9 t12 t14 t16 q3_0 q3_1 q3_2 q3_3 q3_4 q3_5 q3_6 q9_1 q9_2 q9_3 q9_4 q9_5; omega⟩, st9.1⟩
set_option maxHeartbeats 4000000 in
set_option maxRecDepth 100000 in
theorem w_case_36 {G : tw_G} (hX : tw_isX G) (hM : tw_isM G) {E : List Frame → Array Value → State → State → Prop} (hN : (gN G : Int) ≤ 2560) (i : Int) (hi : 0 ≤ i ∧ i + 5 ≤ (gN G : Int)) (τ : tw_M) (hIτ : tw_I τ) (hL : tw_LI τ) (K : ∀ τ' : tw_M, tw_I τ' → tw_LI τ' → tw_J G tw_ML E 1352 [(0, vR 300), (1, vR 0), (2, vR 88), (3, vI i)] [] τ') : tw_J G tw_ML E 1316 [(0, vR 300), (1, vR 0), (2, vR 88), (3, vI i)] [] τ := by
  obtain ⟨mτ, zτ, sτ, bτ, fτ, kτ0, kτ1, tτ, stτ⟩ := hL
  have g9 : (0 : Int) ≤ τ 10 10 ∧ τ 10 10 ≤ 400 := hIτ 10 10
  obtain ⟨v1, ev1⟩ : ∃ v : Int, v = (gxs G (i + 1).toNat).toInt := ⟨_, rfl⟩
  have hv1 : (-2147483648 : Int) ≤ v1 ∧ v1 ≤ 2147483647 := by rw [ev1]; exact i32_in _
  obtain ⟨v2, ev2⟩ : ∃ v : Int, v = (gxs G (i + 2).toNat).toInt := ⟨_, rfl⟩
  have hv2 : (-2147483648 : Int) ≤ v2 ∧ v2 ≤ 2147483647 := by rw [ev2]; exact i32_in _
  obtain ⟨v3, ev3⟩ : ∃ v : Int, v = (gxs G (i + 3).toNat).toInt := ⟨_, rfl⟩
  have hv3 : (-2147483648 : Int) ≤ v3 ∧ v3 ≤ 2147483647 := by rw [ev3]; exact i32_in _
  obtain ⟨v4, ev4⟩ : ∃ v : Int, v = (gxs G (i + 4).toNat).toInt := ⟨_, rfl⟩
  have hv4 : (-2147483648 : Int) ≤ v4 ∧ v4 ≤ 2147483647 := by rw [ev4]; exact i32_in _
  refine j_aload_n (pc := 1316) dL_law_1316 rfl rfl ?_
  refine j_callV (pc := 1317) (As := []) (st := []) (c_X11_torn hX τ hIτ) mv_L_170 rfl rfl rfl (a_0 hX) dL_law_1317 ⟨Nat.le_of_ble_eq_true rfl, Nat.le_of_ble_eq_true rfl⟩ ⟨Nat.le_of_ble_eq_true rfl, Nat.le_of_ble_eq_true rfl⟩ rfl (Nat.le_of_ble_eq_true rfl) rfl (fun z1 σ2 hz1 => ?_)
  obtain ⟨r4, rfl, hr4, rfl, q3_0⟩ := hz1
  replace q3_0 : r4 = τ 0 14 := q3_0
  refine j_st (st' := [vI r4]) rfl ?_
  refine j_pop (pc := 1320) dL_law_1320 rfl ?_
  refine j_aload_n (pc := 1321) dL_law_1321 rfl rfl ?_
  refine j_callV (pc := 1322) (As := []) (st := []) (c_X12_torn hM τ hIτ) mv_L_173 rfl rfl rfl (a_88 hM) dL_law_1322 ⟨Nat.le_of_ble_eq_true rfl, Nat.le_of_ble_eq_true rfl⟩ ⟨Nat.le_of_ble_eq_true rfl, Nat.le_of_ble_eq_true rfl⟩ rfl (Nat.le_of_ble_eq_true rfl) rfl (fun z5 σ6 hz5 => ?_)
  obtain ⟨r8, rfl, hr8, rfl, q7_0⟩ := hz5
  replace q7_0 : r8 = τ 88 38 := q7_0
  refine j_st (st' := [vI r8]) rfl ?_
  have rr9 : r4 = r8 := q3_0.trans (stτ.2.2.2.2.2.2.2.trans q7_0.symm)
  refine j_pop (pc := 1325) dL_law_1325 rfl ?_
  refine j_goto (pc := 1326) (tgt := 1352) dL_law_1326 rfl ?_
  exact K τ hIτ ⟨mτ, by omega, sτ, bτ, by omega, by omega, by omega, tτ, stτ⟩
set_option maxHeartbeats 4000000 in
set_option maxRecDepth 100000 in
theorem w_case_37 {G : tw_G} (hX : tw_isX G) (hM : tw_isM G) {E : List Frame → Array Value → State → State → Prop} (hN : (gN G : Int) ≤ 2560) (i : Int) (hi : 0 ≤ i ∧ i + 5 ≤ (gN G : Int)) (τ : tw_M) (hIτ : tw_I τ) (hL : tw_LI τ) (K : ∀ τ' : tw_M, tw_I τ' → tw_LI τ' → tw_J G tw_ML E 1352 [(0, vR 300), (1, vR 0), (2, vR 88), (3, vI i)] [] τ') : tw_J G tw_ML E 1329 [(0, vR 300), (1, vR 0), (2, vR 88), (3, vI i)] [] τ := by
  obtain ⟨mτ, zτ, sτ, bτ, fτ, kτ0, kτ1, tτ, stτ⟩ := hL
  have g9 : (0 : Int) ≤ τ 10 10 ∧ τ 10 10 ≤ 400 := hIτ 10 10
  obtain ⟨v1, ev1⟩ : ∃ v : Int, v = (gxs G (i + 1).toNat).toInt := ⟨_, rfl⟩
  have hv1 : (-2147483648 : Int) ≤ v1 ∧ v1 ≤ 2147483647 := by rw [ev1]; exact i32_in _
  obtain ⟨v2, ev2⟩ : ∃ v : Int, v = (gxs G (i + 2).toNat).toInt := ⟨_, rfl⟩
  have hv2 : (-2147483648 : Int) ≤ v2 ∧ v2 ≤ 2147483647 := by rw [ev2]; exact i32_in _
  obtain ⟨v3, ev3⟩ : ∃ v : Int, v = (gxs G (i + 3).toNat).toInt := ⟨_, rfl⟩
  have hv3 : (-2147483648 : Int) ≤ v3 ∧ v3 ≤ 2147483647 := by rw [ev3]; exact i32_in _
  obtain ⟨v4, ev4⟩ : ∃ v : Int, v = (gxs G (i + 4).toNat).toInt := ⟨_, rfl⟩
  have hv4 : (-2147483648 : Int) ≤ v4 ∧ v4 ≤ 2147483647 := by rw [ev4]; exact i32_in _
  refine j_aload_n (pc := 1329) dL_law_1329 rfl rfl ?_
  refine j_aload_n (pc := 1330) dL_law_1330 rfl rfl ?_
  refine j_iload_n (pc := 1331) dL_law_1331 rfl rfl ?_
  refine j_iconst (pc := 1332) dL_law_1332 ?_
  refine j_iadd (pc := 1333) dL_law_1333 ?_
  refine j_scrAt (pc := 1334) dL_law_1334 (by omega) (by omega) (by omega) ?_
  refine j_topV (show _ = v1 from ev1.symm) ?_
  refine j_callV (pc := 1335) (As := [vI v1]) (st := []) (c_X11_count hX v1 ⟨by omega, by omega⟩ τ hIτ) mv_L_174 rfl rfl rfl (a_0 hX) dL_law_1335 ⟨Nat.le_of_ble_eq_true rfl, Nat.le_of_ble_eq_true rfl⟩ ⟨Nat.le_of_ble_eq_true rfl, Nat.le_of_ble_eq_true rfl⟩ rfl (Nat.le_of_ble_eq_true rfl) rfl (fun z1 σ2 hz1 => ?_)
  obtain ⟨r4, rfl, hr4, rfl, -⟩ := hz1
  refine j_st (st' := [vI r4]) rfl ?_
  refine j_pop (pc := 1338) dL_law_1338 rfl ?_
  refine j_aload_n (pc := 1339) dL_law_1339 rfl rfl ?_
  refine j_aload_n (pc := 1340) dL_law_1340 rfl rfl ?_
  refine j_iload_n (pc := 1341) dL_law_1341 rfl rfl ?_
  refine j_iconst (pc := 1342) dL_law_1342 ?_
  refine j_iadd (pc := 1343) dL_law_1343 ?_
  refine j_scrAt (pc := 1344) dL_law_1344 (by omega) (by omega) (by omega) ?_
  refine j_topV (show _ = v1 from ev1.symm) ?_
  refine j_callV (pc := 1345) (As := [vI v1]) (st := []) (c_X12_count hM v1 ⟨by omega, by omega⟩ τ hIτ) mv_L_177 rfl rfl rfl (a_88 hM) dL_law_1345 ⟨Nat.le_of_ble_eq_true rfl, Nat.le_of_ble_eq_true rfl⟩ ⟨Nat.le_of_ble_eq_true rfl, Nat.le_of_ble_eq_true rfl⟩ rfl (Nat.le_of_ble_eq_true rfl) rfl (fun z5 σ6 hz5 => ?_)
  obtain ⟨r8, rfl, hr8, rfl, -⟩ := hz5
  refine j_st (st' := [vI r8]) rfl ?_
  refine j_pop (pc := 1348) dL_law_1348 rfl ?_
  refine j_goto (pc := 1349) (tgt := 1352) dL_law_1349 rfl ?_
  exact K τ hIτ ⟨mτ, by omega, sτ, bτ, by omega, by omega, by omega, tτ, stτ⟩
set_option maxHeartbeats 4000000 in
set_option maxRecDepth 100000 in
theorem w_loop {G : tw_G} (hX : tw_isX G) (hM : tw_isM G) {E : List Frame → Array Value → State → State → Prop} (hN : (gN G : Int) ≤ 2560) (hE : ∀ τ : tw_M, tw_J G tw_ML E 1359 [] [vI 1] τ) : ∀ N_ : Nat, ∀ (i : Int) (hi : 0 ≤ i ∧ i ≤ 2560) (τ : tw_M) (hIτ : tw_I τ) (hL : tw_LI τ) (hm : (2600 - i).toNat < N_), tw_J G tw_ML E 18 [(0, vR 300), (1, vR 0), (2, vR 88), (3, vI i)] [] τ := by
  intro N_
  induction N_ with
  | zero => exact fun i hi τ hIτ hL hm => absurd hm (Nat.not_lt_zero _)
  | succ N_ ih =>
    intro i hi τ hIτ hL hm
    refine j_iload_n (pc := 18) dL_law_18 rfl rfl ?_
    refine j_aload_n (pc := 19) dL_law_19 rfl rfl ?_
    refine j_scrLen (pc := 20) dL_law_20 ?_
    refine j_iconst (pc := 21) dL_law_21 ?_
    refine j_isub (pc := 22) dL_law_22 ?_
    refine j_icmpR_gt (pc := 23) (tgt := 1358) ⟨by omega, by omega⟩ ⟨by omega, by omega⟩ dL_law_23 rfl (fun h1 => ?_) (fun h1 => ?_)
    · refine j_iconst (pc := 1358) dL_law_1358 ?_
      exact j_ls (ls' := []) [] rfl (hE τ)
    · refine j_aload_n (pc := 26) dL_law_26 rfl rfl ?_
      refine j_iload_n (pc := 27) dL_law_27 rfl rfl ?_
      refine j_scrAt (pc := 28) dL_law_28 (by omega) (by omega) (by omega) ?_
      have f1 : (-2147483648 : Int) ≤ (gxs G i.toNat).toInt ∧ (gxs G i.toNat).toInt ≤ 2147483647 := i32_in _
      refine j_bipush (pc := 29) dL_law_29 rfl ?_
      refine j_iand (pc := 31) dL_law_31 (fun z2 ez2 => ?_)
      have hz2 : (-2147483648 : Int) ≤ z2 ∧ z2 ≤ 2147483647 := by rw [ez2]; exact and_in _ _
      have K : ∀ τ' : tw_M, tw_I τ' → tw_LI τ' → tw_J G tw_ML E 1352 [(0, vR 300), (1, vR 0), (2, vR 88), (3, vI i)] [] τ' := by
        intro τ' hI' hL'
        refine j_iinc (pc := 1352) (i := 3) (n := 5) (ls' := [(0, vR 300), (1, vR 0), (2, vR 88), (3, vI (i + 5))]) [1, 2, 3, 0] dL_law_1352 rfl (Nat.le_of_ble_eq_true rfl) rfl rfl ?_
        refine j_goto (pc := 1355) (tgt := 18) dL_law_1355 rfl ?_
        exact ih (i + 5) ⟨by omega, by omega⟩ τ' hI' hL' (by omega)
      rcases (show z2 < 0 ∨ z2 = 0 ∨ z2 = 1 ∨ z2 = 2 ∨ z2 = 3 ∨ z2 = 4 ∨ z2 = 5 ∨ z2 = 6 ∨ z2 = 7 ∨ z2 = 8 ∨ z2 = 9 ∨ z2 = 10 ∨ z2 = 11 ∨ z2 = 12 ∨ z2 = 13 ∨ z2 = 14 ∨ z2 = 15 ∨ z2 = 16 ∨ z2 = 17 ∨ z2 = 18 ∨ z2 = 19 ∨ z2 = 20 ∨ z2 = 21 ∨ z2 = 22 ∨ z2 = 23 ∨ z2 = 24 ∨ z2 = 25 ∨ z2 = 26 ∨ z2 = 27 ∨ z2 = 28 ∨ z2 = 29 ∨ z2 = 30 ∨ z2 = 31 ∨ z2 = 32 ∨ z2 = 33 ∨ z2 = 34 ∨ z2 = 35 ∨ z2 = 36 ∨ z2 = 37 ∨ 37 < z2 from by omega) with h9 | h9 | h9 | h9 | h9 | h9 | h9 | h9 | h9 | h9 | h9 | h9 | h9 | h9 | h9 | h9 | h9 | h9 | h9 | h9 | h9 | h9 | h9 | h9 | h9 | h9 | h9 | h9 | h9 | h9 | h9 | h9 | h9 | h9 | h9 | h9 | h9 | h9 | h9 | h9
      · refine j_tsOut (pc := 32) (tgt := 1352) dL_law_32 ⟨by omega, by omega⟩ (Or.inl h9) rfl ?_
        exact K τ hIτ hL
      · refine j_tsIn (pc := 32) (tgt := 200) 0 dL_law_32 h9 (by decide) ⟨by decide, by decide⟩ rfl rfl ?_
        exact w_case_0 hX hM hN i ⟨by omega, by omega⟩ τ hIτ hL K
      · refine j_tsIn (pc := 32) (tgt := 253) 1 dL_law_32 h9 (by decide) ⟨by decide, by decide⟩ rfl rfl ?_
        exact w_case_1 hX hM hN i ⟨by omega, by omega⟩ τ hIτ hL K
      · refine j_tsIn (pc := 32) (tgt := 276) 2 dL_law_32 h9 (by decide) ⟨by decide, by decide⟩ rfl rfl ?_
        exact w_case_2 hX hM hN i ⟨by omega, by omega⟩ τ hIτ hL K
      · refine j_tsIn (pc := 32) (tgt := 289) 3 dL_law_32 h9 (by decide) ⟨by decide, by decide⟩ rfl rfl ?_
        exact w_case_3 hX hM hN i ⟨by omega, by omega⟩ τ hIτ hL K
      · refine j_tsIn (pc := 32) (tgt := 302) 4 dL_law_32 h9 (by decide) ⟨by decide, by decide⟩ rfl rfl ?_
        exact w_case_4 hX hM hN i ⟨by omega, by omega⟩ τ hIτ hL K
      · refine j_tsIn (pc := 32) (tgt := 325) 5 dL_law_32 h9 (by decide) ⟨by decide, by decide⟩ rfl rfl ?_
        exact w_case_5 hX hM hN i ⟨by omega, by omega⟩ τ hIτ hL K
      · refine j_tsIn (pc := 32) (tgt := 358) 6 dL_law_32 h9 (by decide) ⟨by decide, by decide⟩ rfl rfl ?_
        exact w_case_6 hX hM hN i ⟨by omega, by omega⟩ τ hIτ hL K
      · refine j_tsIn (pc := 32) (tgt := 391) 7 dL_law_32 h9 (by decide) ⟨by decide, by decide⟩ rfl rfl ?_
        exact w_case_7 hX hM hN i ⟨by omega, by omega⟩ τ hIτ hL K
      · refine j_tsIn (pc := 32) (tgt := 414) 8 dL_law_32 h9 (by decide) ⟨by decide, by decide⟩ rfl rfl ?_
        exact w_case_8 hX hM hN i ⟨by omega, by omega⟩ τ hIτ hL K
      · refine j_tsIn (pc := 32) (tgt := 463) 9 dL_law_32 h9 (by decide) ⟨by decide, by decide⟩ rfl rfl ?_
        exact w_case_9 hX hM hN i ⟨by omega, by omega⟩ τ hIτ hL K
      · refine j_tsIn (pc := 32) (tgt := 496) 10 dL_law_32 h9 (by decide) ⟨by decide, by decide⟩ rfl rfl ?_
        exact w_case_10 hX hM hN i ⟨by omega, by omega⟩ τ hIτ hL K
      · refine j_tsIn (pc := 32) (tgt := 509) 11 dL_law_32 h9 (by decide) ⟨by decide, by decide⟩ rfl rfl ?_
        exact w_case_11 hX hM hN i ⟨by omega, by omega⟩ τ hIτ hL K
      · refine j_tsIn (pc := 32) (tgt := 552) 12 dL_law_32 h9 (by decide) ⟨by decide, by decide⟩ rfl rfl ?_
        exact w_case_12 hX hM hN i ⟨by omega, by omega⟩ τ hIτ hL K
      · refine j_tsIn (pc := 32) (tgt := 595) 13 dL_law_32 h9 (by decide) ⟨by decide, by decide⟩ rfl rfl ?_
        exact w_case_13 hX hM hN i ⟨by omega, by omega⟩ τ hIτ hL K
      · refine j_tsIn (pc := 32) (tgt := 628) 14 dL_law_32 h9 (by decide) ⟨by decide, by decide⟩ rfl rfl ?_
        exact w_case_14 hX hM hN i ⟨by omega, by omega⟩ τ hIτ hL K
      · refine j_tsIn (pc := 32) (tgt := 651) 15 dL_law_32 h9 (by decide) ⟨by decide, by decide⟩ rfl rfl ?_
        exact w_case_15 hX hM hN i ⟨by omega, by omega⟩ τ hIτ hL K
      · refine j_tsIn (pc := 32) (tgt := 664) 16 dL_law_32 h9 (by decide) ⟨by decide, by decide⟩ rfl rfl ?_
        exact w_case_16 hX hM hN i ⟨by omega, by omega⟩ τ hIτ hL K
      · refine j_tsIn (pc := 32) (tgt := 687) 17 dL_law_32 h9 (by decide) ⟨by decide, by decide⟩ rfl rfl ?_
        exact w_case_17 hX hM hN i ⟨by omega, by omega⟩ τ hIτ hL K
      · refine j_tsIn (pc := 32) (tgt := 720) 18 dL_law_32 h9 (by decide) ⟨by decide, by decide⟩ rfl rfl ?_
        exact w_case_18 hX hM hN i ⟨by omega, by omega⟩ τ hIτ hL K
      · refine j_tsIn (pc := 32) (tgt := 743) 19 dL_law_32 h9 (by decide) ⟨by decide, by decide⟩ rfl rfl ?_
        exact w_case_19 hX hM hN i ⟨by omega, by omega⟩ τ hIτ hL K
      · refine j_tsIn (pc := 32) (tgt := 756) 20 dL_law_32 h9 (by decide) ⟨by decide, by decide⟩ rfl rfl ?_
        exact w_case_20 hX hM hN i ⟨by omega, by omega⟩ τ hIτ hL K
      · refine j_tsIn (pc := 32) (tgt := 779) 21 dL_law_32 h9 (by decide) ⟨by decide, by decide⟩ rfl rfl ?_
        exact w_case_21 hX hM hN i ⟨by omega, by omega⟩ τ hIτ hL K
      · refine j_tsIn (pc := 32) (tgt := 812) 22 dL_law_32 h9 (by decide) ⟨by decide, by decide⟩ rfl rfl ?_
        exact w_case_22 hX hM hN i ⟨by omega, by omega⟩ τ hIτ hL K
      · refine j_tsIn (pc := 32) (tgt := 835) 23 dL_law_32 h9 (by decide) ⟨by decide, by decide⟩ rfl rfl ?_
        exact w_case_23 hX hM hN i ⟨by omega, by omega⟩ τ hIτ hL K
      · refine j_tsIn (pc := 32) (tgt := 904) 24 dL_law_32 h9 (by decide) ⟨by decide, by decide⟩ rfl rfl ?_
        exact w_case_24 hX hM hN i ⟨by omega, by omega⟩ τ hIτ hL K
      · refine j_tsIn (pc := 32) (tgt := 927) 25 dL_law_32 h9 (by decide) ⟨by decide, by decide⟩ rfl rfl ?_
        exact w_case_25 hX hM hN i ⟨by omega, by omega⟩ τ hIτ hL K
      · refine j_tsIn (pc := 32) (tgt := 976) 26 dL_law_32 h9 (by decide) ⟨by decide, by decide⟩ rfl rfl ?_
        exact w_case_26 hX hM hN i ⟨by omega, by omega⟩ τ hIτ hL K
      · refine j_tsIn (pc := 32) (tgt := 1009) 27 dL_law_32 h9 (by decide) ⟨by decide, by decide⟩ rfl rfl ?_
        exact w_case_27 hX hM hN i ⟨by omega, by omega⟩ τ hIτ hL K
      · refine j_tsIn (pc := 32) (tgt := 1022) 28 dL_law_32 h9 (by decide) ⟨by decide, by decide⟩ rfl rfl ?_
        exact w_case_28 hX hM hN i ⟨by omega, by omega⟩ τ hIτ hL K
      · refine j_tsIn (pc := 32) (tgt := 1055) 29 dL_law_32 h9 (by decide) ⟨by decide, by decide⟩ rfl rfl ?_
        exact w_case_29 hX hM hN i ⟨by omega, by omega⟩ τ hIτ hL K
      · refine j_tsIn (pc := 32) (tgt := 1108) 30 dL_law_32 h9 (by decide) ⟨by decide, by decide⟩ rfl rfl ?_
        exact w_case_30 hX hM hN i ⟨by omega, by omega⟩ τ hIτ hL K
      · refine j_tsIn (pc := 32) (tgt := 1131) 31 dL_law_32 h9 (by decide) ⟨by decide, by decide⟩ rfl rfl ?_
        exact w_case_31 hX hM hN i ⟨by omega, by omega⟩ τ hIτ hL K
      · refine j_tsIn (pc := 32) (tgt := 1154) 32 dL_law_32 h9 (by decide) ⟨by decide, by decide⟩ rfl rfl ?_
        exact w_case_32 hX hM hN i ⟨by omega, by omega⟩ τ hIτ hL K
      · refine j_tsIn (pc := 32) (tgt := 1177) 33 dL_law_32 h9 (by decide) ⟨by decide, by decide⟩ rfl rfl ?_
        exact w_case_33 hX hM hN i ⟨by omega, by omega⟩ τ hIτ hL K
      · refine j_tsIn (pc := 32) (tgt := 1220) 34 dL_law_32 h9 (by decide) ⟨by decide, by decide⟩ rfl rfl ?_
        exact w_case_34 hX hM hN i ⟨by omega, by omega⟩ τ hIτ hL K
      · refine j_tsIn (pc := 32) (tgt := 1263) 35 dL_law_32 h9 (by decide) ⟨by decide, by decide⟩ rfl rfl ?_
        exact w_case_35 hX hM hN i ⟨by omega, by omega⟩ τ hIτ hL K
      · refine j_tsIn (pc := 32) (tgt := 1316) 36 dL_law_32 h9 (by decide) ⟨by decide, by decide⟩ rfl rfl ?_
        exact w_case_36 hX hM hN i ⟨by omega, by omega⟩ τ hIτ hL K
      · refine j_tsIn (pc := 32) (tgt := 1329) 37 dL_law_32 h9 (by decide) ⟨by decide, by decide⟩ rfl rfl ?_
        exact w_case_37 hX hM hN i ⟨by omega, by omega⟩ τ hIτ hL K
      · refine j_tsOut (pc := 32) (tgt := 1352) dL_law_32 ⟨by omega, by omega⟩ (Or.inr h9) rfl ?_
        exact K τ hIτ hL
