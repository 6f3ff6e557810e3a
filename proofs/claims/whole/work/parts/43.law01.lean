theorem d_La_law_281 : decode code 281 = .ok (.goto 1246, 3) := by decide +kernel
theorem d_La_law_284 : decode code 284 = .ok (.aload_n 1, 1) := by decide +kernel
theorem d_La_law_285 : decode code 285 = .ok (.aload_n 0, 1) := by decide +kernel
theorem d_La_law_286 : decode code 286 = .ok (.iload 4, 2) := by decide +kernel
theorem d_La_law_288 : decode code 288 = .ok (.iconst 1, 1) := by decide +kernel
theorem d_La_law_289 : decode code 289 = .ok (.iadd, 1) := by decide +kernel
theorem d_La_law_290 : decode code 290 = .ok (.iaload, 1) := by decide +kernel
theorem d_La_law_291 : decode code 291 = .ok (.aload_n 0, 1) := by decide +kernel
theorem d_La_law_292 : decode code 292 = .ok (.iload 4, 2) := by decide +kernel
theorem d_La_law_294 : decode code 294 = .ok (.iconst 2, 1) := by decide +kernel
theorem d_La_law_295 : decode code 295 = .ok (.iadd, 1) := by decide +kernel
theorem d_La_law_296 : decode code 296 = .ok (.iaload, 1) := by decide +kernel
theorem d_La_law_297 : decode code 297 = .ok (.aload_n 3, 1) := by decide +kernel
theorem d_La_law_298 : decode code 298 = .ok (.invokestatic 99, 3) := by decide +kernel
theorem d_La_law_301 : decode code 301 = .ok (.istore 5, 2) := by decide +kernel
theorem d_La_law_303 : decode code 303 = .ok (.aload_n 2, 1) := by decide +kernel
theorem d_La_law_304 : decode code 304 = .ok (.aload_n 0, 1) := by decide +kernel
theorem d_La_law_305 : decode code 305 = .ok (.iload 4, 2) := by decide +kernel
theorem d_La_law_307 : decode code 307 = .ok (.iconst 1, 1) := by decide +kernel
theorem d_La_law_308 : decode code 308 = .ok (.iadd, 1) := by decide +kernel
theorem d_La_law_309 : decode code 309 = .ok (.iaload, 1) := by decide +kernel
theorem d_La_law_310 : decode code 310 = .ok (.aload_n 0, 1) := by decide +kernel
theorem d_La_law_311 : decode code 311 = .ok (.iload 4, 2) := by decide +kernel
theorem d_La_law_313 : decode code 313 = .ok (.iconst 2, 1) := by decide +kernel
theorem d_La_law_314 : decode code 314 = .ok (.iadd, 1) := by decide +kernel
theorem d_La_law_315 : decode code 315 = .ok (.iaload, 1) := by decide +kernel
theorem d_La_law_316 : decode code 316 = .ok (.invokevirtual 101, 3) := by decide +kernel
theorem d_La_law_319 : decode code 319 = .ok (.istore 6, 2) := by decide +kernel
theorem d_La_law_321 : decode code 321 = .ok (.aload_n 2, 1) := by decide +kernel
theorem d_La_law_322 : decode code 322 = .ok (.invokevirtual 92, 3) := by decide +kernel
theorem d_La_law_325 : decode code 325 = .ok (.iload 5, 2) := by decide +kernel
theorem d_La_law_327 : decode code 327 = .ok (.if_icmp .eq 5, 3) := by decide +kernel
theorem d_La_law_330 : decode code 330 = .ok (.iconst 0, 1) := by decide +kernel
theorem d_La_law_331 : decode code 331 = .ok (.ireturn, 1) := by decide +kernel
theorem d_La_law_332 : decode code 332 = .ok (.iload 5, 2) := by decide +kernel
theorem d_La_law_334 : decode code 334 = .ok (.ifCond .ne 15, 3) := by decide +kernel
theorem d_La_law_337 : decode code 337 = .ok (.aload_n 3, 1) := by decide +kernel
theorem d_La_law_338 : decode code 338 = .ok (.iconst 0, 1) := by decide +kernel
theorem d_La_law_339 : decode code 339 = .ok (.laload, 1) := by decide +kernel
theorem d_La_law_340 : decode code 340 = .ok (.iload 6, 2) := by decide +kernel
theorem d_La_law_342 : decode code 342 = .ok (.i2l, 1) := by decide +kernel
theorem d_La_law_343 : decode code 343 = .ok (.lcmp, 1) := by decide +kernel
theorem d_La_law_344 : decode code 344 = .ok (.ifCond .eq 5, 3) := by decide +kernel
theorem d_La_law_347 : decode code 347 = .ok (.iconst 0, 1) := by decide +kernel
theorem d_La_law_348 : decode code 348 = .ok (.ireturn, 1) := by decide +kernel
theorem d_La_law_349 : decode code 349 = .ok (.goto 1178, 3) := by decide +kernel
theorem d_La_law_352 : decode code 352 = .ok (.aload_n 1, 1) := by decide +kernel
theorem d_La_law_353 : decode code 353 = .ok (.aload_n 0, 1) := by decide +kernel
theorem d_La_law_354 : decode code 354 = .ok (.iload 4, 2) := by decide +kernel
theorem d_La_law_356 : decode code 356 = .ok (.iconst 1, 1) := by decide +kernel
theorem d_La_law_357 : decode code 357 = .ok (.iadd, 1) := by decide +kernel
theorem d_La_law_358 : decode code 358 = .ok (.iaload, 1) := by decide +kernel
theorem d_La_law_359 : decode code 359 = .ok (.aload_n 0, 1) := by decide +kernel
theorem d_La_law_360 : decode code 360 = .ok (.iload 4, 2) := by decide +kernel
theorem d_La_law_362 : decode code 362 = .ok (.iconst 2, 1) := by decide +kernel
theorem d_La_law_363 : decode code 363 = .ok (.iadd, 1) := by decide +kernel
theorem d_La_law_364 : decode code 364 = .ok (.iaload, 1) := by decide +kernel
theorem d_La_law_365 : decode code 365 = .ok (.aload_n 0, 1) := by decide +kernel
theorem d_La_law_366 : decode code 366 = .ok (.iload 4, 2) := by decide +kernel
theorem d_La_law_368 : decode code 368 = .ok (.iconst 3, 1) := by decide +kernel
theorem d_La_law_369 : decode code 369 = .ok (.iadd, 1) := by decide +kernel
theorem d_La_law_370 : decode code 370 = .ok (.iaload, 1) := by decide +kernel
theorem d_La_law_371 : decode code 371 = .ok (.aload_n 0, 1) := by decide +kernel
theorem d_La_law_372 : decode code 372 = .ok (.iload 4, 2) := by decide +kernel
theorem d_La_law_374 : decode code 374 = .ok (.iconst 4, 1) := by decide +kernel
theorem d_La_law_375 : decode code 375 = .ok (.iadd, 1) := by decide +kernel
theorem d_La_law_376 : decode code 376 = .ok (.iaload, 1) := by decide +kernel
theorem d_La_law_377 : decode code 377 = .ok (.aload_n 3, 1) := by decide +kernel
theorem d_La_law_378 : decode code 378 = .ok (.invokestatic 102, 3) := by decide +kernel
theorem d_La_law_381 : decode code 381 = .ok (.istore 5, 2) := by decide +kernel
theorem d_La_law_383 : decode code 383 = .ok (.aload_n 2, 1) := by decide +kernel
theorem d_La_law_384 : decode code 384 = .ok (.aload_n 0, 1) := by decide +kernel
theorem d_La_law_385 : decode code 385 = .ok (.iload 4, 2) := by decide +kernel
theorem d_La_law_387 : decode code 387 = .ok (.iconst 1, 1) := by decide +kernel
theorem d_La_law_388 : decode code 388 = .ok (.iadd, 1) := by decide +kernel
theorem d_La_law_389 : decode code 389 = .ok (.iaload, 1) := by decide +kernel
theorem d_La_law_390 : decode code 390 = .ok (.aload_n 0, 1) := by decide +kernel
theorem d_La_law_391 : decode code 391 = .ok (.iload 4, 2) := by decide +kernel
theorem d_La_law_393 : decode code 393 = .ok (.iconst 2, 1) := by decide +kernel
theorem d_La_law_394 : decode code 394 = .ok (.iadd, 1) := by decide +kernel
theorem d_La_law_395 : decode code 395 = .ok (.iaload, 1) := by decide +kernel
theorem d_La_law_396 : decode code 396 = .ok (.aload_n 0, 1) := by decide +kernel
theorem d_La_law_397 : decode code 397 = .ok (.iload 4, 2) := by decide +kernel
theorem d_La_law_399 : decode code 399 = .ok (.iconst 3, 1) := by decide +kernel
theorem d_La_law_400 : decode code 400 = .ok (.iadd, 1) := by decide +kernel
theorem d_La_law_401 : decode code 401 = .ok (.iaload, 1) := by decide +kernel
theorem d_La_law_402 : decode code 402 = .ok (.aload_n 0, 1) := by decide +kernel
theorem d_La_law_403 : decode code 403 = .ok (.iload 4, 2) := by decide +kernel
theorem d_La_law_405 : decode code 405 = .ok (.iconst 4, 1) := by decide +kernel
theorem d_La_law_406 : decode code 406 = .ok (.iadd, 1) := by decide +kernel
theorem d_La_law_407 : decode code 407 = .ok (.iaload, 1) := by decide +kernel
theorem d_La_law_408 : decode code 408 = .ok (.invokevirtual 105, 3) := by decide +kernel
theorem d_La_law_411 : decode code 411 = .ok (.istore 6, 2) := by decide +kernel
theorem d_La_law_413 : decode code 413 = .ok (.aload_n 2, 1) := by decide +kernel
theorem d_La_law_414 : decode code 414 = .ok (.invokevirtual 92, 3) := by decide +kernel
theorem d_La_law_417 : decode code 417 = .ok (.iload 5, 2) := by decide +kernel
theorem d_La_law_419 : decode code 419 = .ok (.if_icmp .eq 5, 3) := by decide +kernel
theorem d_La_law_422 : decode code 422 = .ok (.iconst 0, 1) := by decide +kernel
theorem d_La_law_423 : decode code 423 = .ok (.ireturn, 1) := by decide +kernel
theorem d_La_law_424 : decode code 424 = .ok (.iload 5, 2) := by decide +kernel
theorem d_La_law_426 : decode code 426 = .ok (.ifCond .ne 15, 3) := by decide +kernel
theorem d_La_law_429 : decode code 429 = .ok (.aload_n 3, 1) := by decide +kernel
theorem d_La_law_430 : decode code 430 = .ok (.iconst 0, 1) := by decide +kernel
theorem d_La_law_431 : decode code 431 = .ok (.laload, 1) := by decide +kernel
theorem d_La_law_432 : decode code 432 = .ok (.iload 6, 2) := by decide +kernel
theorem d_La_law_434 : decode code 434 = .ok (.i2l, 1) := by decide +kernel
theorem d_La_law_435 : decode code 435 = .ok (.lcmp, 1) := by decide +kernel
theorem d_La_law_436 : decode code 436 = .ok (.ifCond .eq 5, 3) := by decide +kernel
theorem d_La_law_439 : decode code 439 = .ok (.iconst 0, 1) := by decide +kernel
theorem d_La_law_440 : decode code 440 = .ok (.ireturn, 1) := by decide +kernel
theorem d_La_law_441 : decode code 441 = .ok (.goto 1086, 3) := by decide +kernel
theorem d_La_law_444 : decode code 444 = .ok (.aload_n 1, 1) := by decide +kernel
theorem d_La_law_445 : decode code 445 = .ok (.aload_n 0, 1) := by decide +kernel
theorem d_La_law_446 : decode code 446 = .ok (.iload 4, 2) := by decide +kernel
theorem d_La_law_448 : decode code 448 = .ok (.iconst 1, 1) := by decide +kernel
theorem d_La_law_449 : decode code 449 = .ok (.iadd, 1) := by decide +kernel
theorem d_La_law_450 : decode code 450 = .ok (.iaload, 1) := by decide +kernel
theorem d_La_law_451 : decode code 451 = .ok (.aload_n 0, 1) := by decide +kernel
theorem d_La_law_452 : decode code 452 = .ok (.iload 4, 2) := by decide +kernel
theorem d_La_law_454 : decode code 454 = .ok (.iconst 2, 1) := by decide +kernel
