theorem d_Law_law_286 : decode code 286 = .ok (.ifCond .ne 15, 3) := by decide +kernel
theorem d_Law_law_289 : decode code 289 = .ok (.aload_n 3, 1) := by decide +kernel
theorem d_Law_law_290 : decode code 290 = .ok (.iconst 0, 1) := by decide +kernel
theorem d_Law_law_291 : decode code 291 = .ok (.laload, 1) := by decide +kernel
theorem d_Law_law_292 : decode code 292 = .ok (.iload 7, 2) := by decide +kernel
theorem d_Law_law_294 : decode code 294 = .ok (.i2l, 1) := by decide +kernel
theorem d_Law_law_295 : decode code 295 = .ok (.lcmp, 1) := by decide +kernel
theorem d_Law_law_296 : decode code 296 = .ok (.ifCond .eq 5, 3) := by decide +kernel
theorem d_Law_law_299 : decode code 299 = .ok (.iconst 0, 1) := by decide +kernel
theorem d_Law_law_300 : decode code 300 = .ok (.ireturn, 1) := by decide +kernel
theorem d_Law_law_301 : decode code 301 = .ok (.goto 696, 3) := by decide +kernel
theorem d_Law_law_304 : decode code 304 = .ok (.aload_n 1, 1) := by decide +kernel
theorem d_Law_law_305 : decode code 305 = .ok (.aload_n 0, 1) := by decide +kernel
theorem d_Law_law_306 : decode code 306 = .ok (.iload 5, 2) := by decide +kernel
theorem d_Law_law_308 : decode code 308 = .ok (.iconst 1, 1) := by decide +kernel
theorem d_Law_law_309 : decode code 309 = .ok (.iadd, 1) := by decide +kernel
theorem d_Law_law_310 : decode code 310 = .ok (.iaload, 1) := by decide +kernel
theorem d_Law_law_311 : decode code 311 = .ok (.i2l, 1) := by decide +kernel
theorem d_Law_law_312 : decode code 312 = .ok (.bipush 32, 2) := by decide +kernel
theorem d_Law_law_314 : decode code 314 = .ok (.lshl, 1) := by decide +kernel
theorem d_Law_law_315 : decode code 315 = .ok (.aload_n 0, 1) := by decide +kernel
theorem d_Law_law_316 : decode code 316 = .ok (.iload 5, 2) := by decide +kernel
theorem d_Law_law_318 : decode code 318 = .ok (.iconst 2, 1) := by decide +kernel
theorem d_Law_law_319 : decode code 319 = .ok (.iadd, 1) := by decide +kernel
theorem d_Law_law_320 : decode code 320 = .ok (.iaload, 1) := by decide +kernel
theorem d_Law_law_321 : decode code 321 = .ok (.i2l, 1) := by decide +kernel
theorem d_Law_law_322 : decode code 322 = .ok (.ldc2_w 87, 3) := by decide +kernel
theorem d_Law_law_325 : decode code 325 = .ok (.land, 1) := by decide +kernel
theorem d_Law_law_326 : decode code 326 = .ok (.lor, 1) := by decide +kernel
theorem d_Law_law_327 : decode code 327 = .ok (.aload_n 3, 1) := by decide +kernel
theorem d_Law_law_328 : decode code 328 = .ok (.invokestatic 89, 3) := by decide +kernel
theorem d_Law_law_331 : decode code 331 = .ok (.istore 6, 2) := by decide +kernel
theorem d_Law_law_333 : decode code 333 = .ok (.aload_n 2, 1) := by decide +kernel
theorem d_Law_law_334 : decode code 334 = .ok (.aload_n 0, 1) := by decide +kernel
theorem d_Law_law_335 : decode code 335 = .ok (.iload 5, 2) := by decide +kernel
theorem d_Law_law_337 : decode code 337 = .ok (.iconst 1, 1) := by decide +kernel
theorem d_Law_law_338 : decode code 338 = .ok (.iadd, 1) := by decide +kernel
theorem d_Law_law_339 : decode code 339 = .ok (.iaload, 1) := by decide +kernel
theorem d_Law_law_340 : decode code 340 = .ok (.i2l, 1) := by decide +kernel
theorem d_Law_law_341 : decode code 341 = .ok (.bipush 32, 2) := by decide +kernel
theorem d_Law_law_343 : decode code 343 = .ok (.lshl, 1) := by decide +kernel
theorem d_Law_law_344 : decode code 344 = .ok (.aload_n 0, 1) := by decide +kernel
theorem d_Law_law_345 : decode code 345 = .ok (.iload 5, 2) := by decide +kernel
theorem d_Law_law_347 : decode code 347 = .ok (.iconst 2, 1) := by decide +kernel
theorem d_Law_law_348 : decode code 348 = .ok (.iadd, 1) := by decide +kernel
theorem d_Law_law_349 : decode code 349 = .ok (.iaload, 1) := by decide +kernel
theorem d_Law_law_350 : decode code 350 = .ok (.i2l, 1) := by decide +kernel
theorem d_Law_law_351 : decode code 351 = .ok (.ldc2_w 87, 3) := by decide +kernel
theorem d_Law_law_354 : decode code 354 = .ok (.land, 1) := by decide +kernel
theorem d_Law_law_355 : decode code 355 = .ok (.lor, 1) := by decide +kernel
theorem d_Law_law_356 : decode code 356 = .ok (.invokevirtual 92, 3) := by decide +kernel
theorem d_Law_law_359 : decode code 359 = .ok (.istore 7, 2) := by decide +kernel
theorem d_Law_law_361 : decode code 361 = .ok (.aload_n 2, 1) := by decide +kernel
theorem d_Law_law_362 : decode code 362 = .ok (.invokevirtual 78, 3) := by decide +kernel
theorem d_Law_law_365 : decode code 365 = .ok (.iload 6, 2) := by decide +kernel
theorem d_Law_law_367 : decode code 367 = .ok (.if_icmp .eq 5, 3) := by decide +kernel
theorem d_Law_law_370 : decode code 370 = .ok (.iconst 0, 1) := by decide +kernel
theorem d_Law_law_371 : decode code 371 = .ok (.ireturn, 1) := by decide +kernel
theorem d_Law_law_372 : decode code 372 = .ok (.iload 6, 2) := by decide +kernel
theorem d_Law_law_374 : decode code 374 = .ok (.ifCond .ne 15, 3) := by decide +kernel
theorem d_Law_law_377 : decode code 377 = .ok (.aload_n 3, 1) := by decide +kernel
theorem d_Law_law_378 : decode code 378 = .ok (.iconst 0, 1) := by decide +kernel
theorem d_Law_law_379 : decode code 379 = .ok (.laload, 1) := by decide +kernel
theorem d_Law_law_380 : decode code 380 = .ok (.iload 7, 2) := by decide +kernel
theorem d_Law_law_382 : decode code 382 = .ok (.i2l, 1) := by decide +kernel
theorem d_Law_law_383 : decode code 383 = .ok (.lcmp, 1) := by decide +kernel
theorem d_Law_law_384 : decode code 384 = .ok (.ifCond .eq 5, 3) := by decide +kernel
theorem d_Law_law_387 : decode code 387 = .ok (.iconst 0, 1) := by decide +kernel
theorem d_Law_law_388 : decode code 388 = .ok (.ireturn, 1) := by decide +kernel
theorem d_Law_law_389 : decode code 389 = .ok (.goto 608, 3) := by decide +kernel
theorem d_Law_law_392 : decode code 392 = .ok (.aload_n 1, 1) := by decide +kernel
theorem d_Law_law_393 : decode code 393 = .ok (.aload_n 3, 1) := by decide +kernel
theorem d_Law_law_394 : decode code 394 = .ok (.invokestatic 93, 3) := by decide +kernel
theorem d_Law_law_397 : decode code 397 = .ok (.istore 6, 2) := by decide +kernel
theorem d_Law_law_399 : decode code 399 = .ok (.aload_n 2, 1) := by decide +kernel
theorem d_Law_law_400 : decode code 400 = .ok (.invokevirtual 96, 3) := by decide +kernel
theorem d_Law_law_403 : decode code 403 = .ok (.istore 7, 2) := by decide +kernel
theorem d_Law_law_405 : decode code 405 = .ok (.aload_n 2, 1) := by decide +kernel
theorem d_Law_law_406 : decode code 406 = .ok (.invokevirtual 78, 3) := by decide +kernel
theorem d_Law_law_409 : decode code 409 = .ok (.iload 6, 2) := by decide +kernel
theorem d_Law_law_411 : decode code 411 = .ok (.if_icmp .eq 5, 3) := by decide +kernel
theorem d_Law_law_414 : decode code 414 = .ok (.iconst 0, 1) := by decide +kernel
theorem d_Law_law_415 : decode code 415 = .ok (.ireturn, 1) := by decide +kernel
theorem d_Law_law_416 : decode code 416 = .ok (.iload 6, 2) := by decide +kernel
theorem d_Law_law_418 : decode code 418 = .ok (.ifCond .ne 15, 3) := by decide +kernel
theorem d_Law_law_421 : decode code 421 = .ok (.aload_n 3, 1) := by decide +kernel
theorem d_Law_law_422 : decode code 422 = .ok (.iconst 0, 1) := by decide +kernel
theorem d_Law_law_423 : decode code 423 = .ok (.laload, 1) := by decide +kernel
theorem d_Law_law_424 : decode code 424 = .ok (.iload 7, 2) := by decide +kernel
theorem d_Law_law_426 : decode code 426 = .ok (.i2l, 1) := by decide +kernel
theorem d_Law_law_427 : decode code 427 = .ok (.lcmp, 1) := by decide +kernel
theorem d_Law_law_428 : decode code 428 = .ok (.ifCond .eq 5, 3) := by decide +kernel
theorem d_Law_law_431 : decode code 431 = .ok (.iconst 0, 1) := by decide +kernel
theorem d_Law_law_432 : decode code 432 = .ok (.ireturn, 1) := by decide +kernel
theorem d_Law_law_433 : decode code 433 = .ok (.goto 564, 3) := by decide +kernel
theorem d_Law_law_436 : decode code 436 = .ok (.aload_n 1, 1) := by decide +kernel
theorem d_Law_law_437 : decode code 437 = .ok (.aload_n 3, 1) := by decide +kernel
theorem d_Law_law_438 : decode code 438 = .ok (.invokestatic 97, 3) := by decide +kernel
theorem d_Law_law_441 : decode code 441 = .ok (.istore 6, 2) := by decide +kernel
theorem d_Law_law_443 : decode code 443 = .ok (.aload_n 2, 1) := by decide +kernel
theorem d_Law_law_444 : decode code 444 = .ok (.invokevirtual 99, 3) := by decide +kernel
theorem d_Law_law_447 : decode code 447 = .ok (.istore 7, 2) := by decide +kernel
theorem d_Law_law_449 : decode code 449 = .ok (.aload_n 2, 1) := by decide +kernel
theorem d_Law_law_450 : decode code 450 = .ok (.invokevirtual 78, 3) := by decide +kernel
theorem d_Law_law_453 : decode code 453 = .ok (.iload 6, 2) := by decide +kernel
theorem d_Law_law_455 : decode code 455 = .ok (.if_icmp .eq 5, 3) := by decide +kernel
theorem d_Law_law_458 : decode code 458 = .ok (.iconst 0, 1) := by decide +kernel
theorem d_Law_law_459 : decode code 459 = .ok (.ireturn, 1) := by decide +kernel
theorem d_Law_law_460 : decode code 460 = .ok (.iload 6, 2) := by decide +kernel
theorem d_Law_law_462 : decode code 462 = .ok (.ifCond .ne 15, 3) := by decide +kernel
theorem d_Law_law_465 : decode code 465 = .ok (.aload_n 3, 1) := by decide +kernel
theorem d_Law_law_466 : decode code 466 = .ok (.iconst 0, 1) := by decide +kernel
theorem d_Law_law_467 : decode code 467 = .ok (.laload, 1) := by decide +kernel
theorem d_Law_law_468 : decode code 468 = .ok (.iload 7, 2) := by decide +kernel
theorem d_Law_law_470 : decode code 470 = .ok (.i2l, 1) := by decide +kernel
theorem d_Law_law_471 : decode code 471 = .ok (.lcmp, 1) := by decide +kernel
theorem d_Law_law_472 : decode code 472 = .ok (.ifCond .eq 5, 3) := by decide +kernel
theorem d_Law_law_475 : decode code 475 = .ok (.iconst 0, 1) := by decide +kernel
theorem d_Law_law_476 : decode code 476 = .ok (.ireturn, 1) := by decide +kernel
theorem d_Law_law_477 : decode code 477 = .ok (.goto 520, 3) := by decide +kernel
theorem d_Law_law_480 : decode code 480 = .ok (.aload_n 1, 1) := by decide +kernel
theorem d_Law_law_481 : decode code 481 = .ok (.aload_n 0, 1) := by decide +kernel
theorem d_Law_law_482 : decode code 482 = .ok (.iload 5, 2) := by decide +kernel
theorem d_Law_law_484 : decode code 484 = .ok (.iconst 1, 1) := by decide +kernel
theorem d_Law_law_485 : decode code 485 = .ok (.iadd, 1) := by decide +kernel
theorem d_Law_law_486 : decode code 486 = .ok (.iaload, 1) := by decide +kernel
theorem d_Law_law_487 : decode code 487 = .ok (.aload_n 3, 1) := by decide +kernel
theorem d_Law_law_488 : decode code 488 = .ok (.invokestatic 100, 3) := by decide +kernel
theorem d_Law_law_491 : decode code 491 = .ok (.istore 6, 2) := by decide +kernel
theorem d_Law_law_493 : decode code 493 = .ok (.aload_n 2, 1) := by decide +kernel
theorem d_Law_law_494 : decode code 494 = .ok (.aload_n 0, 1) := by decide +kernel
theorem d_Law_law_495 : decode code 495 = .ok (.iload 5, 2) := by decide +kernel
theorem d_Law_law_497 : decode code 497 = .ok (.iconst 1, 1) := by decide +kernel
theorem d_Law_law_498 : decode code 498 = .ok (.iadd, 1) := by decide +kernel
theorem d_Law_law_499 : decode code 499 = .ok (.iaload, 1) := by decide +kernel
theorem d_Law_law_500 : decode code 500 = .ok (.invokevirtual 103, 3) := by decide +kernel
theorem d_Law_law_503 : decode code 503 = .ok (.istore 7, 2) := by decide +kernel
theorem d_Law_law_505 : decode code 505 = .ok (.aload_n 2, 1) := by decide +kernel
theorem d_Law_law_506 : decode code 506 = .ok (.invokevirtual 78, 3) := by decide +kernel
theorem d_Law_law_509 : decode code 509 = .ok (.iload 6, 2) := by decide +kernel
theorem d_Law_law_511 : decode code 511 = .ok (.if_icmp .eq 5, 3) := by decide +kernel
theorem d_Law_law_514 : decode code 514 = .ok (.iconst 0, 1) := by decide +kernel
theorem d_Law_law_515 : decode code 515 = .ok (.ireturn, 1) := by decide +kernel
theorem d_Law_law_516 : decode code 516 = .ok (.iload 6, 2) := by decide +kernel
theorem d_Law_law_518 : decode code 518 = .ok (.ifCond .ne 15, 3) := by decide +kernel
theorem d_Law_law_521 : decode code 521 = .ok (.aload_n 3, 1) := by decide +kernel
theorem d_Law_law_522 : decode code 522 = .ok (.iconst 0, 1) := by decide +kernel
theorem d_Law_law_523 : decode code 523 = .ok (.laload, 1) := by decide +kernel
theorem d_Law_law_524 : decode code 524 = .ok (.iload 7, 2) := by decide +kernel
