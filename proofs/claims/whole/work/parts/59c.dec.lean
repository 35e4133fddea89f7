/-! the law: decoded -/
theorem d_Lw_law_300 : decode code 300 = .ok (.iconst 1, 1) := by decide +kernel
theorem d_Lw_law_301 : decode code 301 = .ok (.iadd, 1) := by decide +kernel
theorem d_Lw_law_302 : decode code 302 = .ok (.iaload, 1) := by decide +kernel
theorem d_Lw_law_303 : decode code 303 = .ok (.invokevirtual 30, 3) := by decide +kernel
theorem d_Lw_law_306 : decode code 306 = .ok (.aload_n 2, 1) := by decide +kernel
theorem d_Lw_law_307 : decode code 307 = .ok (.aload_n 0, 1) := by decide +kernel
theorem d_Lw_law_308 : decode code 308 = .ok (.iload_n 3, 1) := by decide +kernel
theorem d_Lw_law_309 : decode code 309 = .ok (.iconst 1, 1) := by decide +kernel
theorem d_Lw_law_310 : decode code 310 = .ok (.iadd, 1) := by decide +kernel
theorem d_Lw_law_311 : decode code 311 = .ok (.iaload, 1) := by decide +kernel
theorem d_Lw_law_312 : decode code 312 = .ok (.invokevirtual 34, 3) := by decide +kernel
theorem d_Lw_law_315 : decode code 315 = .ok (.if_icmp .eq 852, 3) := by decide +kernel
theorem d_Lw_law_318 : decode code 318 = .ok (.iconst 0, 1) := by decide +kernel
theorem d_Lw_law_319 : decode code 319 = .ok (.ireturn, 1) := by decide +kernel
theorem d_Lw_law_320 : decode code 320 = .ok (.aload_n 1, 1) := by decide +kernel
theorem d_Lw_law_321 : decode code 321 = .ok (.aload_n 0, 1) := by decide +kernel
theorem d_Lw_law_322 : decode code 322 = .ok (.iload_n 3, 1) := by decide +kernel
theorem d_Lw_law_323 : decode code 323 = .ok (.iconst 1, 1) := by decide +kernel
theorem d_Lw_law_324 : decode code 324 = .ok (.iadd, 1) := by decide +kernel
theorem d_Lw_law_325 : decode code 325 = .ok (.iaload, 1) := by decide +kernel
theorem d_Lw_law_326 : decode code 326 = .ok (.aload_n 0, 1) := by decide +kernel
theorem d_Lw_law_327 : decode code 327 = .ok (.iload_n 3, 1) := by decide +kernel
theorem d_Lw_law_328 : decode code 328 = .ok (.iconst 2, 1) := by decide +kernel
theorem d_Lw_law_329 : decode code 329 = .ok (.iadd, 1) := by decide +kernel
theorem d_Lw_law_330 : decode code 330 = .ok (.iaload, 1) := by decide +kernel
theorem d_Lw_law_331 : decode code 331 = .ok (.aload_n 0, 1) := by decide +kernel
theorem d_Lw_law_332 : decode code 332 = .ok (.iload_n 3, 1) := by decide +kernel
theorem d_Lw_law_333 : decode code 333 = .ok (.iconst 3, 1) := by decide +kernel
theorem d_Lw_law_334 : decode code 334 = .ok (.iadd, 1) := by decide +kernel
theorem d_Lw_law_335 : decode code 335 = .ok (.iaload, 1) := by decide +kernel
theorem d_Lw_law_336 : decode code 336 = .ok (.aload_n 0, 1) := by decide +kernel
theorem d_Lw_law_337 : decode code 337 = .ok (.iload_n 3, 1) := by decide +kernel
theorem d_Lw_law_338 : decode code 338 = .ok (.iconst 4, 1) := by decide +kernel
theorem d_Lw_law_339 : decode code 339 = .ok (.iadd, 1) := by decide +kernel
theorem d_Lw_law_340 : decode code 340 = .ok (.iaload, 1) := by decide +kernel
theorem d_Lw_law_341 : decode code 341 = .ok (.invokevirtual 35, 3) := by decide +kernel
theorem d_Lw_law_344 : decode code 344 = .ok (.aload_n 2, 1) := by decide +kernel
theorem d_Lw_law_345 : decode code 345 = .ok (.aload_n 0, 1) := by decide +kernel
theorem d_Lw_law_346 : decode code 346 = .ok (.iload_n 3, 1) := by decide +kernel
theorem d_Lw_law_347 : decode code 347 = .ok (.iconst 1, 1) := by decide +kernel
theorem d_Lw_law_348 : decode code 348 = .ok (.iadd, 1) := by decide +kernel
theorem d_Lw_law_349 : decode code 349 = .ok (.iaload, 1) := by decide +kernel
theorem d_Lw_law_350 : decode code 350 = .ok (.aload_n 0, 1) := by decide +kernel
theorem d_Lw_law_351 : decode code 351 = .ok (.iload_n 3, 1) := by decide +kernel
theorem d_Lw_law_352 : decode code 352 = .ok (.iconst 2, 1) := by decide +kernel
theorem d_Lw_law_353 : decode code 353 = .ok (.iadd, 1) := by decide +kernel
theorem d_Lw_law_354 : decode code 354 = .ok (.iaload, 1) := by decide +kernel
theorem d_Lw_law_355 : decode code 355 = .ok (.aload_n 0, 1) := by decide +kernel
theorem d_Lw_law_356 : decode code 356 = .ok (.iload_n 3, 1) := by decide +kernel
theorem d_Lw_law_357 : decode code 357 = .ok (.iconst 3, 1) := by decide +kernel
theorem d_Lw_law_358 : decode code 358 = .ok (.iadd, 1) := by decide +kernel
theorem d_Lw_law_359 : decode code 359 = .ok (.iaload, 1) := by decide +kernel
theorem d_Lw_law_360 : decode code 360 = .ok (.aload_n 0, 1) := by decide +kernel
theorem d_Lw_law_361 : decode code 361 = .ok (.iload_n 3, 1) := by decide +kernel
theorem d_Lw_law_362 : decode code 362 = .ok (.iconst 4, 1) := by decide +kernel
theorem d_Lw_law_363 : decode code 363 = .ok (.iadd, 1) := by decide +kernel
theorem d_Lw_law_364 : decode code 364 = .ok (.iaload, 1) := by decide +kernel
theorem d_Lw_law_365 : decode code 365 = .ok (.invokevirtual 39, 3) := by decide +kernel
theorem d_Lw_law_368 : decode code 368 = .ok (.if_icmp .eq 799, 3) := by decide +kernel
theorem d_Lw_law_371 : decode code 371 = .ok (.iconst 0, 1) := by decide +kernel
theorem d_Lw_law_372 : decode code 372 = .ok (.ireturn, 1) := by decide +kernel
theorem d_Lw_law_373 : decode code 373 = .ok (.aload_n 1, 1) := by decide +kernel
theorem d_Lw_law_374 : decode code 374 = .ok (.aload_n 0, 1) := by decide +kernel
theorem d_Lw_law_375 : decode code 375 = .ok (.iload_n 3, 1) := by decide +kernel
theorem d_Lw_law_376 : decode code 376 = .ok (.iconst 1, 1) := by decide +kernel
theorem d_Lw_law_377 : decode code 377 = .ok (.iadd, 1) := by decide +kernel
theorem d_Lw_law_378 : decode code 378 = .ok (.iaload, 1) := by decide +kernel
theorem d_Lw_law_379 : decode code 379 = .ok (.aload_n 0, 1) := by decide +kernel
theorem d_Lw_law_380 : decode code 380 = .ok (.iload_n 3, 1) := by decide +kernel
theorem d_Lw_law_381 : decode code 381 = .ok (.iconst 2, 1) := by decide +kernel
theorem d_Lw_law_382 : decode code 382 = .ok (.iadd, 1) := by decide +kernel
theorem d_Lw_law_383 : decode code 383 = .ok (.iaload, 1) := by decide +kernel
theorem d_Lw_law_384 : decode code 384 = .ok (.aload_n 0, 1) := by decide +kernel
theorem d_Lw_law_385 : decode code 385 = .ok (.iload_n 3, 1) := by decide +kernel
theorem d_Lw_law_386 : decode code 386 = .ok (.iconst 3, 1) := by decide +kernel
theorem d_Lw_law_387 : decode code 387 = .ok (.iadd, 1) := by decide +kernel
theorem d_Lw_law_388 : decode code 388 = .ok (.iaload, 1) := by decide +kernel
theorem d_Lw_law_389 : decode code 389 = .ok (.invokevirtual 40, 3) := by decide +kernel
theorem d_Lw_law_392 : decode code 392 = .ok (.aload_n 2, 1) := by decide +kernel
theorem d_Lw_law_393 : decode code 393 = .ok (.aload_n 0, 1) := by decide +kernel
theorem d_Lw_law_394 : decode code 394 = .ok (.iload_n 3, 1) := by decide +kernel
theorem d_Lw_law_395 : decode code 395 = .ok (.iconst 1, 1) := by decide +kernel
theorem d_Lw_law_396 : decode code 396 = .ok (.iadd, 1) := by decide +kernel
theorem d_Lw_law_397 : decode code 397 = .ok (.iaload, 1) := by decide +kernel
theorem d_Lw_law_398 : decode code 398 = .ok (.aload_n 0, 1) := by decide +kernel
theorem d_Lw_law_399 : decode code 399 = .ok (.iload_n 3, 1) := by decide +kernel
theorem d_Lw_law_400 : decode code 400 = .ok (.iconst 2, 1) := by decide +kernel
theorem d_Lw_law_401 : decode code 401 = .ok (.iadd, 1) := by decide +kernel
theorem d_Lw_law_402 : decode code 402 = .ok (.iaload, 1) := by decide +kernel
theorem d_Lw_law_403 : decode code 403 = .ok (.aload_n 0, 1) := by decide +kernel
theorem d_Lw_law_404 : decode code 404 = .ok (.iload_n 3, 1) := by decide +kernel
theorem d_Lw_law_405 : decode code 405 = .ok (.iconst 3, 1) := by decide +kernel
theorem d_Lw_law_406 : decode code 406 = .ok (.iadd, 1) := by decide +kernel
theorem d_Lw_law_407 : decode code 407 = .ok (.iaload, 1) := by decide +kernel
theorem d_Lw_law_408 : decode code 408 = .ok (.invokevirtual 44, 3) := by decide +kernel
theorem d_Lw_law_411 : decode code 411 = .ok (.if_icmp .eq 756, 3) := by decide +kernel
theorem d_Lw_law_414 : decode code 414 = .ok (.iconst 0, 1) := by decide +kernel
theorem d_Lw_law_415 : decode code 415 = .ok (.ireturn, 1) := by decide +kernel
theorem d_Lw_law_416 : decode code 416 = .ok (.aload_n 1, 1) := by decide +kernel
theorem d_Lw_law_417 : decode code 417 = .ok (.aload_n 0, 1) := by decide +kernel
theorem d_Lw_law_418 : decode code 418 = .ok (.iload_n 3, 1) := by decide +kernel
theorem d_Lw_law_419 : decode code 419 = .ok (.iconst 1, 1) := by decide +kernel
theorem d_Lw_law_420 : decode code 420 = .ok (.iadd, 1) := by decide +kernel
theorem d_Lw_law_421 : decode code 421 = .ok (.iaload, 1) := by decide +kernel
theorem d_Lw_law_422 : decode code 422 = .ok (.aload_n 0, 1) := by decide +kernel
theorem d_Lw_law_423 : decode code 423 = .ok (.iload_n 3, 1) := by decide +kernel
theorem d_Lw_law_424 : decode code 424 = .ok (.iconst 2, 1) := by decide +kernel
theorem d_Lw_law_425 : decode code 425 = .ok (.iadd, 1) := by decide +kernel
theorem d_Lw_law_426 : decode code 426 = .ok (.iaload, 1) := by decide +kernel
theorem d_Lw_law_427 : decode code 427 = .ok (.aload_n 0, 1) := by decide +kernel
theorem d_Lw_law_428 : decode code 428 = .ok (.iload_n 3, 1) := by decide +kernel
theorem d_Lw_law_429 : decode code 429 = .ok (.iconst 3, 1) := by decide +kernel
theorem d_Lw_law_430 : decode code 430 = .ok (.iadd, 1) := by decide +kernel
theorem d_Lw_law_431 : decode code 431 = .ok (.iaload, 1) := by decide +kernel
theorem d_Lw_law_432 : decode code 432 = .ok (.invokevirtual 45, 3) := by decide +kernel
theorem d_Lw_law_435 : decode code 435 = .ok (.aload_n 2, 1) := by decide +kernel
theorem d_Lw_law_436 : decode code 436 = .ok (.aload_n 0, 1) := by decide +kernel
theorem d_Lw_law_437 : decode code 437 = .ok (.iload_n 3, 1) := by decide +kernel
theorem d_Lw_law_438 : decode code 438 = .ok (.iconst 1, 1) := by decide +kernel
theorem d_Lw_law_439 : decode code 439 = .ok (.iadd, 1) := by decide +kernel
theorem d_Lw_law_440 : decode code 440 = .ok (.iaload, 1) := by decide +kernel
theorem d_Lw_law_441 : decode code 441 = .ok (.aload_n 0, 1) := by decide +kernel
theorem d_Lw_law_442 : decode code 442 = .ok (.iload_n 3, 1) := by decide +kernel
theorem d_Lw_law_443 : decode code 443 = .ok (.iconst 2, 1) := by decide +kernel
theorem d_Lw_law_444 : decode code 444 = .ok (.iadd, 1) := by decide +kernel
theorem d_Lw_law_445 : decode code 445 = .ok (.iaload, 1) := by decide +kernel
theorem d_Lw_law_446 : decode code 446 = .ok (.aload_n 0, 1) := by decide +kernel
theorem d_Lw_law_447 : decode code 447 = .ok (.iload_n 3, 1) := by decide +kernel
theorem d_Lw_law_448 : decode code 448 = .ok (.iconst 3, 1) := by decide +kernel
theorem d_Lw_law_449 : decode code 449 = .ok (.iadd, 1) := by decide +kernel

