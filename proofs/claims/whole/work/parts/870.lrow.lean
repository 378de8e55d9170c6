/-! The law: its rows 0 (written by wip/whole/genlaw.py) -/
section
theorem d417_0 : decode code 0 = .ok (.new 8, 3) := by decide +kernel
theorem d417_3 : decode code 3 = .ok (.dup, 1) := by decide +kernel
theorem d417_4 : decode code 4 = .ok (.invokespecial 137, 3) := by decide +kernel
theorem d417_7 : decode code 7 = .ok (.astore_n 1, 1) := by decide +kernel
theorem d417_8 : decode code 8 = .ok (.new 138, 3) := by decide +kernel
theorem d417_11 : decode code 11 = .ok (.dup, 1) := by decide +kernel
theorem d417_12 : decode code 12 = .ok (.invokespecial 140, 3) := by decide +kernel
theorem d417_15 : decode code 15 = .ok (.astore_n 2, 1) := by decide +kernel
theorem d417_16 : decode code 16 = .ok (.iconst 1, 1) := by decide +kernel
theorem d417_17 : decode code 17 = .ok (.newarray .long, 2) := by decide +kernel
theorem d417_19 : decode code 19 = .ok (.astore_n 3, 1) := by decide +kernel
theorem d417_20 : decode code 20 = .ok (.iconst 0, 1) := by decide +kernel
theorem d417_21 : decode code 21 = .ok (.istore 4, 2) := by decide +kernel
theorem d417_23 : decode code 23 = .ok (.iload 4, 2) := by decide +kernel
theorem d417_25 : decode code 25 = .ok (.aload_n 0, 1) := by decide +kernel
theorem d417_26 : decode code 26 = .ok (.arraylength, 1) := by decide +kernel
theorem d417_27 : decode code 27 = .ok (.iconst 4, 1) := by decide +kernel
theorem d417_28 : decode code 28 = .ok (.isub, 1) := by decide +kernel
theorem d417_29 : decode code 29 = .ok (.if_icmp .gt 2760, 3) := by decide +kernel
theorem d417_32 : decode code 32 = .ok (.aload_n 0, 1) := by decide +kernel
theorem d417_33 : decode code 33 = .ok (.iload 4, 2) := by decide +kernel
theorem d417_35 : decode code 35 = .ok (.iaload, 1) := by decide +kernel
theorem d417_36 : decode code 36 = .ok (.bipush 63, 2) := by decide +kernel
theorem d417_38 : decode code 38 = .ok (.iand, 1) := by decide +kernel
theorem d417_39 : decode code 39 = .ok (.tableswitch 2744 0 49 #[213, 269, 282, 295, 308, 364, 432, 488, 568, 636, 692, 748, 804, 860, 904, 948, 961, 1005, 1068, 1131, 1194, 1250, 1306, 1369, 1432, 1495, 1558, 1621, 1677, 1745, 1801, 1869, 1925, 1981, 2056, 2119, 2175, 2231, 2287, 2300, 2313, 2326, 2339, 2352, 2407, 2462, 2503, 2528, 2608, 2688], 213) := by decide +kernel
theorem d417_252 : decode code 252 = .ok (.aload_n 1, 1) := by decide +kernel
theorem d417_253 : decode code 253 = .ok (.aload_n 0, 1) := by decide +kernel
theorem d417_254 : decode code 254 = .ok (.iload 4, 2) := by decide +kernel
theorem d417_256 : decode code 256 = .ok (.iconst 1, 1) := by decide +kernel
theorem d417_257 : decode code 257 = .ok (.iadd, 1) := by decide +kernel
theorem d417_258 : decode code 258 = .ok (.iaload, 1) := by decide +kernel
theorem d417_259 : decode code 259 = .ok (.aload_n 3, 1) := by decide +kernel
theorem d417_260 : decode code 260 = .ok (.invokestatic 141, 3) := by decide +kernel
theorem d417_263 : decode code 263 = .ok (.istore 5, 2) := by decide +kernel
theorem d417_265 : decode code 265 = .ok (.aload_n 2, 1) := by decide +kernel
theorem d417_266 : decode code 266 = .ok (.aload_n 0, 1) := by decide +kernel
theorem d417_267 : decode code 267 = .ok (.iload 4, 2) := by decide +kernel
theorem d417_269 : decode code 269 = .ok (.iconst 1, 1) := by decide +kernel
theorem d417_270 : decode code 270 = .ok (.iadd, 1) := by decide +kernel
theorem d417_271 : decode code 271 = .ok (.iaload, 1) := by decide +kernel
theorem d417_272 : decode code 272 = .ok (.invokevirtual 146, 3) := by decide +kernel
theorem d417_275 : decode code 275 = .ok (.istore 6, 2) := by decide +kernel
theorem d417_277 : decode code 277 = .ok (.aload_n 2, 1) := by decide +kernel
theorem d417_278 : decode code 278 = .ok (.invokevirtual 147, 3) := by decide +kernel
theorem d417_281 : decode code 281 = .ok (.iload 5, 2) := by decide +kernel
theorem d417_283 : decode code 283 = .ok (.if_icmp .eq 5, 3) := by decide +kernel
theorem d417_286 : decode code 286 = .ok (.iconst 0, 1) := by decide +kernel
theorem d417_287 : decode code 287 = .ok (.ireturn, 1) := by decide +kernel
theorem d417_288 : decode code 288 = .ok (.iload 5, 2) := by decide +kernel
theorem d417_290 : decode code 290 = .ok (.ifCond .ne 15, 3) := by decide +kernel
theorem d417_293 : decode code 293 = .ok (.aload_n 3, 1) := by decide +kernel
theorem d417_294 : decode code 294 = .ok (.iconst 0, 1) := by decide +kernel
theorem d417_295 : decode code 295 = .ok (.laload, 1) := by decide +kernel
theorem d417_296 : decode code 296 = .ok (.iload 6, 2) := by decide +kernel
theorem d417_298 : decode code 298 = .ok (.i2l, 1) := by decide +kernel
theorem d417_299 : decode code 299 = .ok (.lcmp, 1) := by decide +kernel
theorem d417_300 : decode code 300 = .ok (.ifCond .eq 5, 3) := by decide +kernel
theorem d417_303 : decode code 303 = .ok (.iconst 0, 1) := by decide +kernel
theorem d417_304 : decode code 304 = .ok (.ireturn, 1) := by decide +kernel
theorem d417_305 : decode code 305 = .ok (.goto 2478, 3) := by decide +kernel
theorem d417_308 : decode code 308 = .ok (.aload_n 1, 1) := by decide +kernel
theorem d417_309 : decode code 309 = .ok (.invokevirtual 150, 3) := by decide +kernel
theorem d417_312 : decode code 312 = .ok (.aload_n 2, 1) := by decide +kernel
theorem d417_313 : decode code 313 = .ok (.invokevirtual 153, 3) := by decide +kernel
theorem d417_316 : decode code 316 = .ok (.if_icmp .eq 2467, 3) := by decide +kernel
theorem d417_319 : decode code 319 = .ok (.iconst 0, 1) := by decide +kernel
theorem d417_320 : decode code 320 = .ok (.ireturn, 1) := by decide +kernel
theorem d417_321 : decode code 321 = .ok (.aload_n 1, 1) := by decide +kernel
theorem d417_322 : decode code 322 = .ok (.invokevirtual 154, 3) := by decide +kernel
theorem d417_325 : decode code 325 = .ok (.aload_n 2, 1) := by decide +kernel
theorem d417_326 : decode code 326 = .ok (.invokevirtual 157, 3) := by decide +kernel
theorem d417_329 : decode code 329 = .ok (.if_icmp .eq 2454, 3) := by decide +kernel
theorem d417_332 : decode code 332 = .ok (.iconst 0, 1) := by decide +kernel
theorem d417_333 : decode code 333 = .ok (.ireturn, 1) := by decide +kernel
theorem d417_334 : decode code 334 = .ok (.aload_n 1, 1) := by decide +kernel
theorem d417_335 : decode code 335 = .ok (.invokevirtual 158, 3) := by decide +kernel
theorem d417_338 : decode code 338 = .ok (.aload_n 2, 1) := by decide +kernel
theorem d417_339 : decode code 339 = .ok (.invokevirtual 161, 3) := by decide +kernel
theorem d417_342 : decode code 342 = .ok (.if_icmp .eq 2441, 3) := by decide +kernel
theorem d417_345 : decode code 345 = .ok (.iconst 0, 1) := by decide +kernel
theorem d417_346 : decode code 346 = .ok (.ireturn, 1) := by decide +kernel
theorem d417_347 : decode code 347 = .ok (.aload_n 1, 1) := by decide +kernel
theorem d417_348 : decode code 348 = .ok (.aload_n 0, 1) := by decide +kernel
theorem d417_349 : decode code 349 = .ok (.iload 4, 2) := by decide +kernel
theorem d417_351 : decode code 351 = .ok (.iconst 1, 1) := by decide +kernel
theorem d417_352 : decode code 352 = .ok (.iadd, 1) := by decide +kernel
theorem d417_353 : decode code 353 = .ok (.iaload, 1) := by decide +kernel
theorem d417_354 : decode code 354 = .ok (.aload_n 3, 1) := by decide +kernel
theorem d417_355 : decode code 355 = .ok (.invokestatic 162, 3) := by decide +kernel
theorem d417_358 : decode code 358 = .ok (.istore 5, 2) := by decide +kernel
theorem d417_360 : decode code 360 = .ok (.aload_n 2, 1) := by decide +kernel
theorem d417_361 : decode code 361 = .ok (.aload_n 0, 1) := by decide +kernel
theorem d417_362 : decode code 362 = .ok (.iload 4, 2) := by decide +kernel
theorem d417_364 : decode code 364 = .ok (.iconst 1, 1) := by decide +kernel
theorem d417_365 : decode code 365 = .ok (.iadd, 1) := by decide +kernel
theorem d417_366 : decode code 366 = .ok (.iaload, 1) := by decide +kernel
theorem d417_367 : decode code 367 = .ok (.invokevirtual 164, 3) := by decide +kernel
theorem d417_370 : decode code 370 = .ok (.istore 6, 2) := by decide +kernel
theorem d417_372 : decode code 372 = .ok (.aload_n 2, 1) := by decide +kernel
theorem d417_373 : decode code 373 = .ok (.invokevirtual 147, 3) := by decide +kernel
theorem d417_376 : decode code 376 = .ok (.iload 5, 2) := by decide +kernel
theorem d417_378 : decode code 378 = .ok (.if_icmp .eq 5, 3) := by decide +kernel
theorem d417_381 : decode code 381 = .ok (.iconst 0, 1) := by decide +kernel
theorem d417_382 : decode code 382 = .ok (.ireturn, 1) := by decide +kernel
theorem d417_383 : decode code 383 = .ok (.iload 5, 2) := by decide +kernel
theorem d417_385 : decode code 385 = .ok (.ifCond .ne 15, 3) := by decide +kernel
theorem d417_388 : decode code 388 = .ok (.aload_n 3, 1) := by decide +kernel
theorem d417_389 : decode code 389 = .ok (.iconst 0, 1) := by decide +kernel
theorem d417_390 : decode code 390 = .ok (.laload, 1) := by decide +kernel
theorem d417_391 : decode code 391 = .ok (.iload 6, 2) := by decide +kernel
theorem d417_393 : decode code 393 = .ok (.i2l, 1) := by decide +kernel
theorem d417_394 : decode code 394 = .ok (.lcmp, 1) := by decide +kernel
theorem d417_395 : decode code 395 = .ok (.ifCond .eq 5, 3) := by decide +kernel
theorem d417_398 : decode code 398 = .ok (.iconst 0, 1) := by decide +kernel
theorem d417_399 : decode code 399 = .ok (.ireturn, 1) := by decide +kernel
theorem d417_400 : decode code 400 = .ok (.goto 2383, 3) := by decide +kernel
theorem d417_403 : decode code 403 = .ok (.aload_n 1, 1) := by decide +kernel
theorem d417_404 : decode code 404 = .ok (.aload_n 0, 1) := by decide +kernel
theorem d417_405 : decode code 405 = .ok (.iload 4, 2) := by decide +kernel
theorem d417_407 : decode code 407 = .ok (.iconst 1, 1) := by decide +kernel
theorem d417_408 : decode code 408 = .ok (.iadd, 1) := by decide +kernel
theorem d417_409 : decode code 409 = .ok (.iaload, 1) := by decide +kernel
theorem d417_410 : decode code 410 = .ok (.aload_n 0, 1) := by decide +kernel
theorem d417_411 : decode code 411 = .ok (.iload 4, 2) := by decide +kernel
theorem d417_413 : decode code 413 = .ok (.iconst 2, 1) := by decide +kernel
theorem d417_414 : decode code 414 = .ok (.iadd, 1) := by decide +kernel
theorem d417_415 : decode code 415 = .ok (.iaload, 1) := by decide +kernel
theorem d417_416 : decode code 416 = .ok (.aload_n 3, 1) := by decide +kernel
theorem d417_417 : decode code 417 = .ok (.invokestatic 165, 3) := by decide +kernel
theorem d417_420 : decode code 420 = .ok (.istore 5, 2) := by decide +kernel
theorem d417_422 : decode code 422 = .ok (.aload_n 2, 1) := by decide +kernel
theorem d417_423 : decode code 423 = .ok (.aload_n 0, 1) := by decide +kernel
theorem d417_424 : decode code 424 = .ok (.iload 4, 2) := by decide +kernel
theorem d417_426 : decode code 426 = .ok (.iconst 1, 1) := by decide +kernel
theorem d417_427 : decode code 427 = .ok (.iadd, 1) := by decide +kernel
theorem d417_428 : decode code 428 = .ok (.iaload, 1) := by decide +kernel
theorem d417_429 : decode code 429 = .ok (.aload_n 0, 1) := by decide +kernel
theorem d417_430 : decode code 430 = .ok (.iload 4, 2) := by decide +kernel
theorem d417_432 : decode code 432 = .ok (.iconst 2, 1) := by decide +kernel
theorem d417_433 : decode code 433 = .ok (.iadd, 1) := by decide +kernel
theorem d417_434 : decode code 434 = .ok (.iaload, 1) := by decide +kernel
theorem d417_435 : decode code 435 = .ok (.invokevirtual 168, 3) := by decide +kernel
theorem d417_438 : decode code 438 = .ok (.istore 6, 2) := by decide +kernel
theorem d417_440 : decode code 440 = .ok (.aload_n 2, 1) := by decide +kernel
theorem d417_441 : decode code 441 = .ok (.invokevirtual 147, 3) := by decide +kernel
theorem d417_444 : decode code 444 = .ok (.iload 5, 2) := by decide +kernel
theorem d417_446 : decode code 446 = .ok (.if_icmp .eq 5, 3) := by decide +kernel
theorem d417_449 : decode code 449 = .ok (.iconst 0, 1) := by decide +kernel
theorem d417_450 : decode code 450 = .ok (.ireturn, 1) := by decide +kernel
theorem d417_451 : decode code 451 = .ok (.iload 5, 2) := by decide +kernel
theorem d417_453 : decode code 453 = .ok (.ifCond .ne 15, 3) := by decide +kernel
theorem d417_456 : decode code 456 = .ok (.aload_n 3, 1) := by decide +kernel
theorem d417_457 : decode code 457 = .ok (.iconst 0, 1) := by decide +kernel
theorem d417_458 : decode code 458 = .ok (.laload, 1) := by decide +kernel
theorem d417_459 : decode code 459 = .ok (.iload 6, 2) := by decide +kernel
theorem d417_461 : decode code 461 = .ok (.i2l, 1) := by decide +kernel
theorem d417_462 : decode code 462 = .ok (.lcmp, 1) := by decide +kernel
theorem d417_463 : decode code 463 = .ok (.ifCond .eq 5, 3) := by decide +kernel
theorem d417_466 : decode code 466 = .ok (.iconst 0, 1) := by decide +kernel
theorem d417_467 : decode code 467 = .ok (.ireturn, 1) := by decide +kernel
theorem d417_468 : decode code 468 = .ok (.goto 2315, 3) := by decide +kernel
theorem d417_471 : decode code 471 = .ok (.aload_n 1, 1) := by decide +kernel
theorem d417_472 : decode code 472 = .ok (.aload_n 0, 1) := by decide +kernel
theorem d417_473 : decode code 473 = .ok (.iload 4, 2) := by decide +kernel
theorem d417_475 : decode code 475 = .ok (.iconst 1, 1) := by decide +kernel
theorem d417_476 : decode code 476 = .ok (.iadd, 1) := by decide +kernel
theorem d417_477 : decode code 477 = .ok (.iaload, 1) := by decide +kernel
theorem d417_478 : decode code 478 = .ok (.aload_n 3, 1) := by decide +kernel
theorem d417_479 : decode code 479 = .ok (.invokestatic 169, 3) := by decide +kernel
theorem d417_482 : decode code 482 = .ok (.istore 5, 2) := by decide +kernel
end
