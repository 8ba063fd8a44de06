theorem d_L_law_325 : decode mb_L_law 325 = .ok (.iload 4, 2) := by decide +kernel
theorem d_L_law_327 : decode mb_L_law 327 = .ok (.iconst 1, 1) := by decide +kernel
theorem d_L_law_328 : decode mb_L_law 328 = .ok (.iadd, 1) := by decide +kernel
theorem d_L_law_329 : decode mb_L_law 329 = .ok (.iaload, 1) := by decide +kernel
theorem d_L_law_330 : decode mb_L_law 330 = .ok (.aload_n 0, 1) := by decide +kernel
theorem d_L_law_331 : decode mb_L_law 331 = .ok (.iload 4, 2) := by decide +kernel
theorem d_L_law_333 : decode mb_L_law 333 = .ok (.iconst 2, 1) := by decide +kernel
theorem d_L_law_334 : decode mb_L_law 334 = .ok (.iadd, 1) := by decide +kernel
theorem d_L_law_335 : decode mb_L_law 335 = .ok (.iaload, 1) := by decide +kernel
theorem d_L_law_336 : decode mb_L_law 336 = .ok (.aload_n 0, 1) := by decide +kernel
theorem d_L_law_337 : decode mb_L_law 337 = .ok (.iload 4, 2) := by decide +kernel
theorem d_L_law_339 : decode mb_L_law 339 = .ok (.iconst 3, 1) := by decide +kernel
theorem d_L_law_340 : decode mb_L_law 340 = .ok (.iadd, 1) := by decide +kernel
theorem d_L_law_341 : decode mb_L_law 341 = .ok (.iaload, 1) := by decide +kernel
theorem d_L_law_342 : decode mb_L_law 342 = .ok (.i2l, 1) := by decide +kernel
theorem d_L_law_343 : decode mb_L_law 343 = .ok (.bipush 32, 2) := by decide +kernel
theorem d_L_law_345 : decode mb_L_law 345 = .ok (.lshl, 1) := by decide +kernel
theorem d_L_law_346 : decode mb_L_law 346 = .ok (.aload_n 0, 1) := by decide +kernel
theorem d_L_law_347 : decode mb_L_law 347 = .ok (.iload 4, 2) := by decide +kernel
theorem d_L_law_349 : decode mb_L_law 349 = .ok (.iconst 4, 1) := by decide +kernel
theorem d_L_law_350 : decode mb_L_law 350 = .ok (.iadd, 1) := by decide +kernel
theorem d_L_law_351 : decode mb_L_law 351 = .ok (.iaload, 1) := by decide +kernel
theorem d_L_law_352 : decode mb_L_law 352 = .ok (.i2l, 1) := by decide +kernel
theorem d_L_law_353 : decode mb_L_law 353 = .ok (.ldc2_w 52, 3) := by decide +kernel
theorem d_L_law_356 : decode mb_L_law 356 = .ok (.land, 1) := by decide +kernel
theorem d_L_law_357 : decode mb_L_law 357 = .ok (.lor, 1) := by decide +kernel
theorem d_L_law_358 : decode mb_L_law 358 = .ok (.aload_n 0, 1) := by decide +kernel
theorem d_L_law_359 : decode mb_L_law 359 = .ok (.iload 4, 2) := by decide +kernel
theorem d_L_law_361 : decode mb_L_law 361 = .ok (.iconst 5, 1) := by decide +kernel
theorem d_L_law_362 : decode mb_L_law 362 = .ok (.iadd, 1) := by decide +kernel
theorem d_L_law_363 : decode mb_L_law 363 = .ok (.iaload, 1) := by decide +kernel
theorem d_L_law_364 : decode mb_L_law 364 = .ok (.i2l, 1) := by decide +kernel
theorem d_L_law_365 : decode mb_L_law 365 = .ok (.bipush 32, 2) := by decide +kernel
theorem d_L_law_367 : decode mb_L_law 367 = .ok (.lshl, 1) := by decide +kernel
theorem d_L_law_368 : decode mb_L_law 368 = .ok (.aload_n 0, 1) := by decide +kernel
theorem d_L_law_369 : decode mb_L_law 369 = .ok (.iload 4, 2) := by decide +kernel
theorem d_L_law_371 : decode mb_L_law 371 = .ok (.bipush 6, 2) := by decide +kernel
theorem d_L_law_373 : decode mb_L_law 373 = .ok (.iadd, 1) := by decide +kernel
theorem d_L_law_374 : decode mb_L_law 374 = .ok (.iaload, 1) := by decide +kernel
theorem d_L_law_375 : decode mb_L_law 375 = .ok (.i2l, 1) := by decide +kernel
theorem d_L_law_376 : decode mb_L_law 376 = .ok (.ldc2_w 52, 3) := by decide +kernel
theorem d_L_law_379 : decode mb_L_law 379 = .ok (.land, 1) := by decide +kernel
theorem d_L_law_380 : decode mb_L_law 380 = .ok (.lor, 1) := by decide +kernel
theorem d_L_law_381 : decode mb_L_law 381 = .ok (.aload_n 3, 1) := by decide +kernel
theorem d_L_law_382 : decode mb_L_law 382 = .ok (.invokestatic 72, 3) := by decide +kernel
theorem d_L_law_385 : decode mb_L_law 385 = .ok (.istore 5, 2) := by decide +kernel
theorem d_L_law_387 : decode mb_L_law 387 = .ok (.aload_n 2, 1) := by decide +kernel
theorem d_L_law_388 : decode mb_L_law 388 = .ok (.aload_n 0, 1) := by decide +kernel
theorem d_L_law_389 : decode mb_L_law 389 = .ok (.iload 4, 2) := by decide +kernel
theorem d_L_law_391 : decode mb_L_law 391 = .ok (.iconst 1, 1) := by decide +kernel
theorem d_L_law_392 : decode mb_L_law 392 = .ok (.iadd, 1) := by decide +kernel
theorem d_L_law_393 : decode mb_L_law 393 = .ok (.iaload, 1) := by decide +kernel
theorem d_L_law_394 : decode mb_L_law 394 = .ok (.aload_n 0, 1) := by decide +kernel
theorem d_L_law_395 : decode mb_L_law 395 = .ok (.iload 4, 2) := by decide +kernel
theorem d_L_law_397 : decode mb_L_law 397 = .ok (.iconst 2, 1) := by decide +kernel
theorem d_L_law_398 : decode mb_L_law 398 = .ok (.iadd, 1) := by decide +kernel
theorem d_L_law_399 : decode mb_L_law 399 = .ok (.iaload, 1) := by decide +kernel
theorem d_L_law_400 : decode mb_L_law 400 = .ok (.aload_n 0, 1) := by decide +kernel
theorem d_L_law_401 : decode mb_L_law 401 = .ok (.iload 4, 2) := by decide +kernel
theorem d_L_law_403 : decode mb_L_law 403 = .ok (.iconst 3, 1) := by decide +kernel
theorem d_L_law_404 : decode mb_L_law 404 = .ok (.iadd, 1) := by decide +kernel
theorem d_L_law_405 : decode mb_L_law 405 = .ok (.iaload, 1) := by decide +kernel
theorem d_L_law_406 : decode mb_L_law 406 = .ok (.i2l, 1) := by decide +kernel
theorem d_L_law_407 : decode mb_L_law 407 = .ok (.bipush 32, 2) := by decide +kernel
theorem d_L_law_409 : decode mb_L_law 409 = .ok (.lshl, 1) := by decide +kernel
theorem d_L_law_410 : decode mb_L_law 410 = .ok (.aload_n 0, 1) := by decide +kernel
theorem d_L_law_411 : decode mb_L_law 411 = .ok (.iload 4, 2) := by decide +kernel
theorem d_L_law_413 : decode mb_L_law 413 = .ok (.iconst 4, 1) := by decide +kernel
theorem d_L_law_414 : decode mb_L_law 414 = .ok (.iadd, 1) := by decide +kernel
theorem d_L_law_415 : decode mb_L_law 415 = .ok (.iaload, 1) := by decide +kernel
theorem d_L_law_416 : decode mb_L_law 416 = .ok (.i2l, 1) := by decide +kernel
theorem d_L_law_417 : decode mb_L_law 417 = .ok (.ldc2_w 52, 3) := by decide +kernel
theorem d_L_law_420 : decode mb_L_law 420 = .ok (.land, 1) := by decide +kernel
theorem d_L_law_421 : decode mb_L_law 421 = .ok (.lor, 1) := by decide +kernel
theorem d_L_law_422 : decode mb_L_law 422 = .ok (.aload_n 0, 1) := by decide +kernel
theorem d_L_law_423 : decode mb_L_law 423 = .ok (.iload 4, 2) := by decide +kernel
theorem d_L_law_425 : decode mb_L_law 425 = .ok (.iconst 5, 1) := by decide +kernel
theorem d_L_law_426 : decode mb_L_law 426 = .ok (.iadd, 1) := by decide +kernel
theorem d_L_law_427 : decode mb_L_law 427 = .ok (.iaload, 1) := by decide +kernel
theorem d_L_law_428 : decode mb_L_law 428 = .ok (.i2l, 1) := by decide +kernel
theorem d_L_law_429 : decode mb_L_law 429 = .ok (.bipush 32, 2) := by decide +kernel
theorem d_L_law_431 : decode mb_L_law 431 = .ok (.lshl, 1) := by decide +kernel
theorem d_L_law_432 : decode mb_L_law 432 = .ok (.aload_n 0, 1) := by decide +kernel
theorem d_L_law_433 : decode mb_L_law 433 = .ok (.iload 4, 2) := by decide +kernel
theorem d_L_law_435 : decode mb_L_law 435 = .ok (.bipush 6, 2) := by decide +kernel
theorem d_L_law_437 : decode mb_L_law 437 = .ok (.iadd, 1) := by decide +kernel
theorem d_L_law_438 : decode mb_L_law 438 = .ok (.iaload, 1) := by decide +kernel
theorem d_L_law_439 : decode mb_L_law 439 = .ok (.i2l, 1) := by decide +kernel
theorem d_L_law_440 : decode mb_L_law 440 = .ok (.ldc2_w 52, 3) := by decide +kernel
theorem d_L_law_443 : decode mb_L_law 443 = .ok (.land, 1) := by decide +kernel
