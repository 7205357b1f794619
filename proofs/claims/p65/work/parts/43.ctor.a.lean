theorem dL_law_0 : decode code 0 = .ok (.new 7, 3) := by decide +kernel
theorem dL_law_3 : decode code 3 = .ok (.dup, 1) := by decide +kernel
theorem dL_law_4 : decode code 4 = .ok (.invokespecial 9, 3) := by decide +kernel
theorem dL_law_7 : decode code 7 = .ok (.astore_n 1, 1) := by decide +kernel
theorem dL_law_8 : decode code 8 = .ok (.new 10, 3) := by decide +kernel
theorem dL_law_11 : decode code 11 = .ok (.dup, 1) := by decide +kernel
theorem dL_law_12 : decode code 12 = .ok (.invokespecial 12, 3) := by decide +kernel
theorem dL_law_15 : decode code 15 = .ok (.astore_n 2, 1) := by decide +kernel
theorem dL_law_16 : decode code 16 = .ok (.iconst 0, 1) := by decide +kernel
theorem dL_law_17 : decode code 17 = .ok (.istore_n 3, 1) := by decide +kernel
theorem dL_law_18 : decode code 18 = .ok (.iload_n 3, 1) := by decide +kernel
theorem dL_law_19 : decode code 19 = .ok (.aload_n 0, 1) := by decide +kernel
theorem dL_law_20 : decode code 20 = .ok (.arraylength, 1) := by decide +kernel
theorem dL_law_21 : decode code 21 = .ok (.bipush 6, 2) := by decide +kernel
theorem dL_law_23 : decode code 23 = .ok (.isub, 1) := by decide +kernel
theorem dL_law_24 : decode code 24 = .ok (.if_icmp .gt 1988, 3) := by decide +kernel
theorem dL_law_27 : decode code 27 = .ok (.aload_n 0, 1) := by decide +kernel
theorem dL_law_28 : decode code 28 = .ok (.iload_n 3, 1) := by decide +kernel
theorem dL_law_29 : decode code 29 = .ok (.iaload, 1) := by decide +kernel
theorem dL_law_30 : decode code 30 = .ok (.bipush 63, 2) := by decide +kernel
theorem dL_law_32 : decode code 32 = .ok (.iand, 1) := by decide +kernel
theorem dL_law_33 : decode code 33 = .ok (.tableswitch 1973 0 63 #[271, 334, 357, 370, 393, 426, 459, 492, 525, 558, 581, 604, 637, 670, 703, 736, 769, 792, 825, 848, 871, 884, 897, 910, 923, 936, 959, 972, 995, 1018, 1041, 1054, 1077, 1090, 1113, 1136, 1159, 1182, 1195, 1208, 1231, 1254, 1267, 1290, 1313, 1346, 1359, 1382, 1415, 1438, 1471, 1494, 1517, 1550, 1583, 1616, 1649, 1682, 1725, 1748, 1771, 1794, 1837, 1910], 271) := by decide +kernel
theorem dL_law_304 : decode code 304 = .ok (.aload_n 1, 1) := by decide +kernel
theorem dL_law_305 : decode code 305 = .ok (.aload_n 0, 1) := by decide +kernel
theorem dL_law_306 : decode code 306 = .ok (.iload_n 3, 1) := by decide +kernel
theorem dL_law_307 : decode code 307 = .ok (.iconst 1, 1) := by decide +kernel
theorem dL_law_308 : decode code 308 = .ok (.iadd, 1) := by decide +kernel
theorem dL_law_309 : decode code 309 = .ok (.iaload, 1) := by decide +kernel
theorem dL_law_310 : decode code 310 = .ok (.aload_n 0, 1) := by decide +kernel
theorem dL_law_311 : decode code 311 = .ok (.iload_n 3, 1) := by decide +kernel
theorem dL_law_312 : decode code 312 = .ok (.iconst 2, 1) := by decide +kernel
theorem dL_law_313 : decode code 313 = .ok (.iadd, 1) := by decide +kernel
theorem dL_law_314 : decode code 314 = .ok (.iaload, 1) := by decide +kernel
theorem dL_law_315 : decode code 315 = .ok (.aload_n 0, 1) := by decide +kernel
theorem dL_law_316 : decode code 316 = .ok (.iload_n 3, 1) := by decide +kernel
theorem dL_law_317 : decode code 317 = .ok (.iconst 3, 1) := by decide +kernel
theorem dL_law_318 : decode code 318 = .ok (.iadd, 1) := by decide +kernel
theorem dL_law_319 : decode code 319 = .ok (.iaload, 1) := by decide +kernel
theorem dL_law_320 : decode code 320 = .ok (.aload_n 0, 1) := by decide +kernel
theorem dL_law_321 : decode code 321 = .ok (.iload_n 3, 1) := by decide +kernel
theorem dL_law_322 : decode code 322 = .ok (.iconst 4, 1) := by decide +kernel
theorem dL_law_323 : decode code 323 = .ok (.iadd, 1) := by decide +kernel
theorem dL_law_324 : decode code 324 = .ok (.iaload, 1) := by decide +kernel
theorem dL_law_325 : decode code 325 = .ok (.aload_n 0, 1) := by decide +kernel
theorem dL_law_326 : decode code 326 = .ok (.iload_n 3, 1) := by decide +kernel
theorem dL_law_327 : decode code 327 = .ok (.iconst 5, 1) := by decide +kernel
theorem dL_law_328 : decode code 328 = .ok (.iadd, 1) := by decide +kernel
theorem dL_law_329 : decode code 329 = .ok (.iaload, 1) := by decide +kernel
theorem dL_law_330 : decode code 330 = .ok (.invokevirtual 13, 3) := by decide +kernel
theorem dL_law_333 : decode code 333 = .ok (.pop, 1) := by decide +kernel
theorem dL_law_334 : decode code 334 = .ok (.aload_n 2, 1) := by decide +kernel
theorem dL_law_335 : decode code 335 = .ok (.aload_n 0, 1) := by decide +kernel
theorem dL_law_336 : decode code 336 = .ok (.iload_n 3, 1) := by decide +kernel
theorem dL_law_337 : decode code 337 = .ok (.iconst 1, 1) := by decide +kernel
theorem dL_law_338 : decode code 338 = .ok (.iadd, 1) := by decide +kernel
theorem dL_law_339 : decode code 339 = .ok (.iaload, 1) := by decide +kernel
theorem dL_law_340 : decode code 340 = .ok (.aload_n 0, 1) := by decide +kernel
theorem dL_law_341 : decode code 341 = .ok (.iload_n 3, 1) := by decide +kernel
theorem dL_law_342 : decode code 342 = .ok (.iconst 2, 1) := by decide +kernel
theorem dL_law_343 : decode code 343 = .ok (.iadd, 1) := by decide +kernel
theorem dL_law_344 : decode code 344 = .ok (.iaload, 1) := by decide +kernel
theorem dL_law_345 : decode code 345 = .ok (.aload_n 0, 1) := by decide +kernel
theorem dL_law_346 : decode code 346 = .ok (.iload_n 3, 1) := by decide +kernel
theorem dL_law_347 : decode code 347 = .ok (.iconst 3, 1) := by decide +kernel
theorem dL_law_348 : decode code 348 = .ok (.iadd, 1) := by decide +kernel
theorem dL_law_349 : decode code 349 = .ok (.iaload, 1) := by decide +kernel
theorem dL_law_350 : decode code 350 = .ok (.aload_n 0, 1) := by decide +kernel
theorem dL_law_351 : decode code 351 = .ok (.iload_n 3, 1) := by decide +kernel
theorem dL_law_352 : decode code 352 = .ok (.iconst 4, 1) := by decide +kernel
theorem dL_law_353 : decode code 353 = .ok (.iadd, 1) := by decide +kernel
theorem dL_law_354 : decode code 354 = .ok (.iaload, 1) := by decide +kernel
theorem dL_law_355 : decode code 355 = .ok (.aload_n 0, 1) := by decide +kernel
theorem dL_law_356 : decode code 356 = .ok (.iload_n 3, 1) := by decide +kernel
theorem dL_law_357 : decode code 357 = .ok (.iconst 5, 1) := by decide +kernel
theorem dL_law_358 : decode code 358 = .ok (.iadd, 1) := by decide +kernel
theorem dL_law_359 : decode code 359 = .ok (.iaload, 1) := by decide +kernel
theorem dL_law_360 : decode code 360 = .ok (.invokevirtual 17, 3) := by decide +kernel
theorem dL_law_363 : decode code 363 = .ok (.pop, 1) := by decide +kernel
theorem dL_law_364 : decode code 364 = .ok (.goto 1642, 3) := by decide +kernel
theorem dL_law_367 : decode code 367 = .ok (.aload_n 1, 1) := by decide +kernel
theorem dL_law_368 : decode code 368 = .ok (.aload_n 0, 1) := by decide +kernel
theorem dL_law_369 : decode code 369 = .ok (.iload_n 3, 1) := by decide +kernel
theorem dL_law_370 : decode code 370 = .ok (.iconst 1, 1) := by decide +kernel
theorem dL_law_371 : decode code 371 = .ok (.iadd, 1) := by decide +kernel
theorem dL_law_372 : decode code 372 = .ok (.iaload, 1) := by decide +kernel
theorem dL_law_373 : decode code 373 = .ok (.invokevirtual 18, 3) := by decide +kernel
theorem dL_law_376 : decode code 376 = .ok (.pop, 1) := by decide +kernel
theorem dL_law_377 : decode code 377 = .ok (.aload_n 2, 1) := by decide +kernel
theorem dL_law_378 : decode code 378 = .ok (.aload_n 0, 1) := by decide +kernel
theorem dL_law_379 : decode code 379 = .ok (.iload_n 3, 1) := by decide +kernel
theorem dL_law_380 : decode code 380 = .ok (.iconst 1, 1) := by decide +kernel
theorem dL_law_381 : decode code 381 = .ok (.iadd, 1) := by decide +kernel
theorem dL_law_382 : decode code 382 = .ok (.iaload, 1) := by decide +kernel
theorem dL_law_383 : decode code 383 = .ok (.invokevirtual 22, 3) := by decide +kernel
theorem dL_law_386 : decode code 386 = .ok (.pop, 1) := by decide +kernel
theorem dL_law_387 : decode code 387 = .ok (.goto 1619, 3) := by decide +kernel
theorem dL_law_390 : decode code 390 = .ok (.aload_n 1, 1) := by decide +kernel
theorem dL_law_391 : decode code 391 = .ok (.invokevirtual 23, 3) := by decide +kernel
theorem dL_law_394 : decode code 394 = .ok (.pop, 1) := by decide +kernel
theorem dL_law_395 : decode code 395 = .ok (.aload_n 2, 1) := by decide +kernel
theorem dL_law_396 : decode code 396 = .ok (.invokevirtual 27, 3) := by decide +kernel
theorem dL_law_399 : decode code 399 = .ok (.pop, 1) := by decide +kernel
theorem dL_law_400 : decode code 400 = .ok (.goto 1606, 3) := by decide +kernel
theorem dL_law_403 : decode code 403 = .ok (.aload_n 1, 1) := by decide +kernel
theorem dL_law_404 : decode code 404 = .ok (.aload_n 0, 1) := by decide +kernel
theorem dL_law_405 : decode code 405 = .ok (.iload_n 3, 1) := by decide +kernel
theorem dL_law_406 : decode code 406 = .ok (.iconst 1, 1) := by decide +kernel
theorem dL_law_407 : decode code 407 = .ok (.iadd, 1) := by decide +kernel
theorem dL_law_408 : decode code 408 = .ok (.iaload, 1) := by decide +kernel
theorem dL_law_409 : decode code 409 = .ok (.invokevirtual 28, 3) := by decide +kernel
theorem dL_law_412 : decode code 412 = .ok (.pop, 1) := by decide +kernel
theorem dL_law_413 : decode code 413 = .ok (.aload_n 2, 1) := by decide +kernel
theorem dL_law_414 : decode code 414 = .ok (.aload_n 0, 1) := by decide +kernel
theorem dL_law_415 : decode code 415 = .ok (.iload_n 3, 1) := by decide +kernel
theorem dL_law_416 : decode code 416 = .ok (.iconst 1, 1) := by decide +kernel
theorem dL_law_417 : decode code 417 = .ok (.iadd, 1) := by decide +kernel
theorem dL_law_418 : decode code 418 = .ok (.iaload, 1) := by decide +kernel
theorem dL_law_419 : decode code 419 = .ok (.invokevirtual 31, 3) := by decide +kernel
theorem dL_law_422 : decode code 422 = .ok (.pop, 1) := by decide +kernel
theorem dL_law_423 : decode code 423 = .ok (.goto 1583, 3) := by decide +kernel
theorem dL_law_426 : decode code 426 = .ok (.aload_n 1, 1) := by decide +kernel
theorem dL_law_427 : decode code 427 = .ok (.aload_n 0, 1) := by decide +kernel
theorem dL_law_428 : decode code 428 = .ok (.iload_n 3, 1) := by decide +kernel
theorem dL_law_429 : decode code 429 = .ok (.iconst 1, 1) := by decide +kernel
theorem dL_law_430 : decode code 430 = .ok (.iadd, 1) := by decide +kernel
theorem dL_law_431 : decode code 431 = .ok (.iaload, 1) := by decide +kernel
theorem dL_law_432 : decode code 432 = .ok (.aload_n 0, 1) := by decide +kernel
theorem dL_law_433 : decode code 433 = .ok (.iload_n 3, 1) := by decide +kernel
theorem dL_law_434 : decode code 434 = .ok (.iconst 2, 1) := by decide +kernel
theorem dL_law_435 : decode code 435 = .ok (.iadd, 1) := by decide +kernel
theorem dL_law_436 : decode code 436 = .ok (.iaload, 1) := by decide +kernel
theorem dL_law_437 : decode code 437 = .ok (.invokevirtual 32, 3) := by decide +kernel
theorem dL_law_440 : decode code 440 = .ok (.pop, 1) := by decide +kernel
theorem dL_law_441 : decode code 441 = .ok (.aload_n 2, 1) := by decide +kernel
theorem dL_law_442 : decode code 442 = .ok (.aload_n 0, 1) := by decide +kernel
theorem dL_law_443 : decode code 443 = .ok (.iload_n 3, 1) := by decide +kernel
theorem dL_law_444 : decode code 444 = .ok (.iconst 1, 1) := by decide +kernel
theorem dL_law_445 : decode code 445 = .ok (.iadd, 1) := by decide +kernel
theorem dL_law_446 : decode code 446 = .ok (.iaload, 1) := by decide +kernel
theorem dL_law_447 : decode code 447 = .ok (.aload_n 0, 1) := by decide +kernel
theorem dL_law_448 : decode code 448 = .ok (.iload_n 3, 1) := by decide +kernel
theorem dL_law_449 : decode code 449 = .ok (.iconst 2, 1) := by decide +kernel
theorem dL_law_450 : decode code 450 = .ok (.iadd, 1) := by decide +kernel
theorem dL_law_451 : decode code 451 = .ok (.iaload, 1) := by decide +kernel
theorem dL_law_452 : decode code 452 = .ok (.invokevirtual 36, 3) := by decide +kernel
theorem dL_law_455 : decode code 455 = .ok (.pop, 1) := by decide +kernel
theorem dL_law_456 : decode code 456 = .ok (.goto 1550, 3) := by decide +kernel
theorem dL_law_459 : decode code 459 = .ok (.aload_n 1, 1) := by decide +kernel
theorem dL_law_460 : decode code 460 = .ok (.aload_n 0, 1) := by decide +kernel
theorem dL_law_461 : decode code 461 = .ok (.iload_n 3, 1) := by decide +kernel
theorem dL_law_462 : decode code 462 = .ok (.iconst 1, 1) := by decide +kernel
theorem dL_law_463 : decode code 463 = .ok (.iadd, 1) := by decide +kernel
theorem dL_law_464 : decode code 464 = .ok (.iaload, 1) := by decide +kernel
theorem dL_law_465 : decode code 465 = .ok (.aload_n 0, 1) := by decide +kernel
theorem dL_law_466 : decode code 466 = .ok (.iload_n 3, 1) := by decide +kernel
theorem dL_law_467 : decode code 467 = .ok (.iconst 2, 1) := by decide +kernel
theorem dL_law_468 : decode code 468 = .ok (.iadd, 1) := by decide +kernel
theorem dL_law_469 : decode code 469 = .ok (.iaload, 1) := by decide +kernel
theorem dL_law_470 : decode code 470 = .ok (.invokevirtual 37, 3) := by decide +kernel
theorem dL_law_473 : decode code 473 = .ok (.pop, 1) := by decide +kernel
theorem dL_law_474 : decode code 474 = .ok (.aload_n 2, 1) := by decide +kernel
theorem dL_law_475 : decode code 475 = .ok (.aload_n 0, 1) := by decide +kernel
theorem dL_law_476 : decode code 476 = .ok (.iload_n 3, 1) := by decide +kernel
theorem dL_law_477 : decode code 477 = .ok (.iconst 1, 1) := by decide +kernel
theorem dL_law_478 : decode code 478 = .ok (.iadd, 1) := by decide +kernel
theorem dL_law_479 : decode code 479 = .ok (.iaload, 1) := by decide +kernel
theorem dL_law_480 : decode code 480 = .ok (.aload_n 0, 1) := by decide +kernel
theorem dL_law_481 : decode code 481 = .ok (.iload_n 3, 1) := by decide +kernel
theorem dL_law_482 : decode code 482 = .ok (.iconst 2, 1) := by decide +kernel
theorem dL_law_483 : decode code 483 = .ok (.iadd, 1) := by decide +kernel
theorem dL_law_484 : decode code 484 = .ok (.iaload, 1) := by decide +kernel
theorem dL_law_485 : decode code 485 = .ok (.invokevirtual 40, 3) := by decide +kernel
theorem dL_law_488 : decode code 488 = .ok (.pop, 1) := by decide +kernel
theorem dL_law_489 : decode code 489 = .ok (.goto 1517, 3) := by decide +kernel
theorem dL_law_492 : decode code 492 = .ok (.aload_n 1, 1) := by decide +kernel
theorem dL_law_493 : decode code 493 = .ok (.aload_n 0, 1) := by decide +kernel
theorem dL_law_494 : decode code 494 = .ok (.iload_n 3, 1) := by decide +kernel
theorem dL_law_495 : decode code 495 = .ok (.iconst 1, 1) := by decide +kernel
theorem dL_law_496 : decode code 496 = .ok (.iadd, 1) := by decide +kernel
theorem dL_law_497 : decode code 497 = .ok (.iaload, 1) := by decide +kernel
theorem dL_law_498 : decode code 498 = .ok (.aload_n 0, 1) := by decide +kernel
theorem dL_law_499 : decode code 499 = .ok (.iload_n 3, 1) := by decide +kernel
theorem dL_law_500 : decode code 500 = .ok (.iconst 2, 1) := by decide +kernel
theorem dL_law_501 : decode code 501 = .ok (.iadd, 1) := by decide +kernel
theorem dL_law_502 : decode code 502 = .ok (.iaload, 1) := by decide +kernel
theorem dL_law_503 : decode code 503 = .ok (.invokevirtual 41, 3) := by decide +kernel
theorem dL_law_506 : decode code 506 = .ok (.pop, 1) := by decide +kernel
theorem dL_law_507 : decode code 507 = .ok (.aload_n 2, 1) := by decide +kernel
theorem dL_law_508 : decode code 508 = .ok (.aload_n 0, 1) := by decide +kernel
theorem dL_law_509 : decode code 509 = .ok (.iload_n 3, 1) := by decide +kernel
theorem dL_law_510 : decode code 510 = .ok (.iconst 1, 1) := by decide +kernel
theorem dL_law_511 : decode code 511 = .ok (.iadd, 1) := by decide +kernel
theorem dL_law_512 : decode code 512 = .ok (.iaload, 1) := by decide +kernel
theorem dL_law_513 : decode code 513 = .ok (.aload_n 0, 1) := by decide +kernel
theorem dL_law_514 : decode code 514 = .ok (.iload_n 3, 1) := by decide +kernel
theorem dL_law_515 : decode code 515 = .ok (.iconst 2, 1) := by decide +kernel
theorem dL_law_516 : decode code 516 = .ok (.iadd, 1) := by decide +kernel
theorem dL_law_517 : decode code 517 = .ok (.iaload, 1) := by decide +kernel
theorem dL_law_518 : decode code 518 = .ok (.invokevirtual 44, 3) := by decide +kernel
theorem dL_law_521 : decode code 521 = .ok (.pop, 1) := by decide +kernel
theorem dL_law_522 : decode code 522 = .ok (.goto 1484, 3) := by decide +kernel
theorem dL_law_525 : decode code 525 = .ok (.aload_n 1, 1) := by decide +kernel
theorem dL_law_526 : decode code 526 = .ok (.aload_n 0, 1) := by decide +kernel
theorem dL_law_527 : decode code 527 = .ok (.iload_n 3, 1) := by decide +kernel
theorem dL_law_528 : decode code 528 = .ok (.iconst 1, 1) := by decide +kernel
theorem dL_law_529 : decode code 529 = .ok (.iadd, 1) := by decide +kernel
theorem dL_law_530 : decode code 530 = .ok (.iaload, 1) := by decide +kernel
theorem dL_law_531 : decode code 531 = .ok (.aload_n 0, 1) := by decide +kernel
theorem dL_law_532 : decode code 532 = .ok (.iload_n 3, 1) := by decide +kernel
theorem dL_law_533 : decode code 533 = .ok (.iconst 2, 1) := by decide +kernel
theorem dL_law_534 : decode code 534 = .ok (.iadd, 1) := by decide +kernel
theorem dL_law_535 : decode code 535 = .ok (.iaload, 1) := by decide +kernel
theorem dL_law_536 : decode code 536 = .ok (.invokevirtual 45, 3) := by decide +kernel
theorem dL_law_539 : decode code 539 = .ok (.pop, 1) := by decide +kernel
theorem dL_law_540 : decode code 540 = .ok (.aload_n 2, 1) := by decide +kernel
theorem dL_law_541 : decode code 541 = .ok (.aload_n 0, 1) := by decide +kernel
theorem dL_law_542 : decode code 542 = .ok (.iload_n 3, 1) := by decide +kernel
theorem dL_law_543 : decode code 543 = .ok (.iconst 1, 1) := by decide +kernel
theorem dL_law_544 : decode code 544 = .ok (.iadd, 1) := by decide +kernel
theorem dL_law_545 : decode code 545 = .ok (.iaload, 1) := by decide +kernel
theorem dL_law_546 : decode code 546 = .ok (.aload_n 0, 1) := by decide +kernel
theorem dL_law_547 : decode code 547 = .ok (.iload_n 3, 1) := by decide +kernel
theorem dL_law_548 : decode code 548 = .ok (.iconst 2, 1) := by decide +kernel
theorem dL_law_549 : decode code 549 = .ok (.iadd, 1) := by decide +kernel
theorem dL_law_550 : decode code 550 = .ok (.iaload, 1) := by decide +kernel
theorem dL_law_551 : decode code 551 = .ok (.invokevirtual 48, 3) := by decide +kernel
theorem dL_law_554 : decode code 554 = .ok (.pop, 1) := by decide +kernel
theorem dL_law_555 : decode code 555 = .ok (.goto 1451, 3) := by decide +kernel
theorem dL_law_558 : decode code 558 = .ok (.aload_n 1, 1) := by decide +kernel
theorem dL_law_559 : decode code 559 = .ok (.aload_n 0, 1) := by decide +kernel
theorem dL_law_560 : decode code 560 = .ok (.iload_n 3, 1) := by decide +kernel
theorem dL_law_561 : decode code 561 = .ok (.iconst 1, 1) := by decide +kernel
theorem dL_law_562 : decode code 562 = .ok (.iadd, 1) := by decide +kernel
theorem dL_law_563 : decode code 563 = .ok (.iaload, 1) := by decide +kernel
theorem dL_law_564 : decode code 564 = .ok (.aload_n 0, 1) := by decide +kernel
theorem dL_law_565 : decode code 565 = .ok (.iload_n 3, 1) := by decide +kernel
theorem dL_law_566 : decode code 566 = .ok (.iconst 2, 1) := by decide +kernel
theorem dL_law_567 : decode code 567 = .ok (.iadd, 1) := by decide +kernel
theorem dL_law_568 : decode code 568 = .ok (.iaload, 1) := by decide +kernel
theorem dL_law_569 : decode code 569 = .ok (.invokevirtual 49, 3) := by decide +kernel
theorem dL_law_572 : decode code 572 = .ok (.pop, 1) := by decide +kernel
theorem dL_law_573 : decode code 573 = .ok (.aload_n 2, 1) := by decide +kernel
theorem dL_law_574 : decode code 574 = .ok (.aload_n 0, 1) := by decide +kernel
theorem dL_law_575 : decode code 575 = .ok (.iload_n 3, 1) := by decide +kernel
theorem dL_law_576 : decode code 576 = .ok (.iconst 1, 1) := by decide +kernel
theorem dL_law_577 : decode code 577 = .ok (.iadd, 1) := by decide +kernel
theorem dL_law_578 : decode code 578 = .ok (.iaload, 1) := by decide +kernel
theorem dL_law_579 : decode code 579 = .ok (.aload_n 0, 1) := by decide +kernel
theorem dL_law_580 : decode code 580 = .ok (.iload_n 3, 1) := by decide +kernel
theorem dL_law_581 : decode code 581 = .ok (.iconst 2, 1) := by decide +kernel
theorem dL_law_582 : decode code 582 = .ok (.iadd, 1) := by decide +kernel
theorem dL_law_583 : decode code 583 = .ok (.iaload, 1) := by decide +kernel
theorem dL_law_584 : decode code 584 = .ok (.invokevirtual 52, 3) := by decide +kernel
theorem dL_law_587 : decode code 587 = .ok (.pop, 1) := by decide +kernel
theorem dL_law_588 : decode code 588 = .ok (.goto 1418, 3) := by decide +kernel
theorem dL_law_591 : decode code 591 = .ok (.aload_n 1, 1) := by decide +kernel
theorem dL_law_592 : decode code 592 = .ok (.aload_n 0, 1) := by decide +kernel
theorem dL_law_593 : decode code 593 = .ok (.iload_n 3, 1) := by decide +kernel
theorem dL_law_594 : decode code 594 = .ok (.iconst 1, 1) := by decide +kernel
theorem dL_law_595 : decode code 595 = .ok (.iadd, 1) := by decide +kernel
theorem dL_law_596 : decode code 596 = .ok (.iaload, 1) := by decide +kernel
theorem dL_law_597 : decode code 597 = .ok (.invokevirtual 53, 3) := by decide +kernel
theorem dL_law_600 : decode code 600 = .ok (.pop, 1) := by decide +kernel
theorem dL_law_601 : decode code 601 = .ok (.aload_n 2, 1) := by decide +kernel
theorem dL_law_602 : decode code 602 = .ok (.aload_n 0, 1) := by decide +kernel
theorem dL_law_603 : decode code 603 = .ok (.iload_n 3, 1) := by decide +kernel
theorem dL_law_604 : decode code 604 = .ok (.iconst 1, 1) := by decide +kernel
theorem dL_law_605 : decode code 605 = .ok (.iadd, 1) := by decide +kernel
theorem dL_law_606 : decode code 606 = .ok (.iaload, 1) := by decide +kernel
theorem dL_law_607 : decode code 607 = .ok (.invokevirtual 56, 3) := by decide +kernel
theorem dL_law_610 : decode code 610 = .ok (.pop, 1) := by decide +kernel
theorem dL_law_611 : decode code 611 = .ok (.goto 1395, 3) := by decide +kernel
theorem dL_law_614 : decode code 614 = .ok (.aload_n 1, 1) := by decide +kernel
theorem dL_law_615 : decode code 615 = .ok (.aload_n 0, 1) := by decide +kernel
theorem dL_law_616 : decode code 616 = .ok (.iload_n 3, 1) := by decide +kernel
theorem dL_law_617 : decode code 617 = .ok (.iconst 1, 1) := by decide +kernel
theorem dL_law_618 : decode code 618 = .ok (.iadd, 1) := by decide +kernel
theorem dL_law_619 : decode code 619 = .ok (.iaload, 1) := by decide +kernel
theorem dL_law_620 : decode code 620 = .ok (.invokevirtual 57, 3) := by decide +kernel
theorem dL_law_623 : decode code 623 = .ok (.pop, 1) := by decide +kernel
theorem dL_law_624 : decode code 624 = .ok (.aload_n 2, 1) := by decide +kernel
theorem dL_law_625 : decode code 625 = .ok (.aload_n 0, 1) := by decide +kernel
theorem dL_law_626 : decode code 626 = .ok (.iload_n 3, 1) := by decide +kernel
theorem dL_law_627 : decode code 627 = .ok (.iconst 1, 1) := by decide +kernel
theorem dL_law_628 : decode code 628 = .ok (.iadd, 1) := by decide +kernel
theorem dL_law_629 : decode code 629 = .ok (.iaload, 1) := by decide +kernel
theorem dL_law_630 : decode code 630 = .ok (.invokevirtual 60, 3) := by decide +kernel
theorem dL_law_633 : decode code 633 = .ok (.pop, 1) := by decide +kernel
theorem dL_law_634 : decode code 634 = .ok (.goto 1372, 3) := by decide +kernel
theorem dL_law_637 : decode code 637 = .ok (.aload_n 1, 1) := by decide +kernel
theorem dL_law_638 : decode code 638 = .ok (.aload_n 0, 1) := by decide +kernel
theorem dL_law_639 : decode code 639 = .ok (.iload_n 3, 1) := by decide +kernel
theorem dL_law_640 : decode code 640 = .ok (.iconst 1, 1) := by decide +kernel
theorem dL_law_641 : decode code 641 = .ok (.iadd, 1) := by decide +kernel
theorem dL_law_642 : decode code 642 = .ok (.iaload, 1) := by decide +kernel
theorem dL_law_643 : decode code 643 = .ok (.aload_n 0, 1) := by decide +kernel
theorem dL_law_644 : decode code 644 = .ok (.iload_n 3, 1) := by decide +kernel
theorem dL_law_645 : decode code 645 = .ok (.iconst 2, 1) := by decide +kernel
theorem dL_law_646 : decode code 646 = .ok (.iadd, 1) := by decide +kernel
theorem dL_law_647 : decode code 647 = .ok (.iaload, 1) := by decide +kernel
theorem dL_law_648 : decode code 648 = .ok (.invokevirtual 61, 3) := by decide +kernel
theorem dL_law_651 : decode code 651 = .ok (.pop, 1) := by decide +kernel
theorem dL_law_652 : decode code 652 = .ok (.aload_n 2, 1) := by decide +kernel
theorem dL_law_653 : decode code 653 = .ok (.aload_n 0, 1) := by decide +kernel
theorem dL_law_654 : decode code 654 = .ok (.iload_n 3, 1) := by decide +kernel
theorem dL_law_655 : decode code 655 = .ok (.iconst 1, 1) := by decide +kernel
theorem dL_law_656 : decode code 656 = .ok (.iadd, 1) := by decide +kernel
theorem dL_law_657 : decode code 657 = .ok (.iaload, 1) := by decide +kernel
theorem dL_law_658 : decode code 658 = .ok (.aload_n 0, 1) := by decide +kernel
theorem dL_law_659 : decode code 659 = .ok (.iload_n 3, 1) := by decide +kernel
theorem dL_law_660 : decode code 660 = .ok (.iconst 2, 1) := by decide +kernel
theorem dL_law_661 : decode code 661 = .ok (.iadd, 1) := by decide +kernel
theorem dL_law_662 : decode code 662 = .ok (.iaload, 1) := by decide +kernel
theorem dL_law_663 : decode code 663 = .ok (.invokevirtual 64, 3) := by decide +kernel
theorem dL_law_666 : decode code 666 = .ok (.pop, 1) := by decide +kernel
theorem dL_law_667 : decode code 667 = .ok (.goto 1339, 3) := by decide +kernel
theorem dL_law_670 : decode code 670 = .ok (.aload_n 1, 1) := by decide +kernel
theorem dL_law_671 : decode code 671 = .ok (.aload_n 0, 1) := by decide +kernel
theorem dL_law_672 : decode code 672 = .ok (.iload_n 3, 1) := by decide +kernel
theorem dL_law_673 : decode code 673 = .ok (.iconst 1, 1) := by decide +kernel
theorem dL_law_674 : decode code 674 = .ok (.iadd, 1) := by decide +kernel
theorem dL_law_675 : decode code 675 = .ok (.iaload, 1) := by decide +kernel
theorem dL_law_676 : decode code 676 = .ok (.aload_n 0, 1) := by decide +kernel
theorem dL_law_677 : decode code 677 = .ok (.iload_n 3, 1) := by decide +kernel
theorem dL_law_678 : decode code 678 = .ok (.iconst 2, 1) := by decide +kernel
theorem dL_law_679 : decode code 679 = .ok (.iadd, 1) := by decide +kernel
theorem dL_law_680 : decode code 680 = .ok (.iaload, 1) := by decide +kernel
theorem dL_law_681 : decode code 681 = .ok (.invokevirtual 65, 3) := by decide +kernel
theorem dL_law_684 : decode code 684 = .ok (.pop, 1) := by decide +kernel
theorem dL_law_685 : decode code 685 = .ok (.aload_n 2, 1) := by decide +kernel
theorem dL_law_686 : decode code 686 = .ok (.aload_n 0, 1) := by decide +kernel
theorem dL_law_687 : decode code 687 = .ok (.iload_n 3, 1) := by decide +kernel
theorem dL_law_688 : decode code 688 = .ok (.iconst 1, 1) := by decide +kernel
theorem dL_law_689 : decode code 689 = .ok (.iadd, 1) := by decide +kernel
theorem dL_law_690 : decode code 690 = .ok (.iaload, 1) := by decide +kernel
theorem dL_law_691 : decode code 691 = .ok (.aload_n 0, 1) := by decide +kernel
theorem dL_law_692 : decode code 692 = .ok (.iload_n 3, 1) := by decide +kernel
theorem dL_law_693 : decode code 693 = .ok (.iconst 2, 1) := by decide +kernel
theorem dL_law_694 : decode code 694 = .ok (.iadd, 1) := by decide +kernel
theorem dL_law_695 : decode code 695 = .ok (.iaload, 1) := by decide +kernel
theorem dL_law_696 : decode code 696 = .ok (.invokevirtual 68, 3) := by decide +kernel
theorem dL_law_699 : decode code 699 = .ok (.pop, 1) := by decide +kernel
theorem dL_law_700 : decode code 700 = .ok (.goto 1306, 3) := by decide +kernel
theorem dL_law_703 : decode code 703 = .ok (.aload_n 1, 1) := by decide +kernel
theorem dL_law_704 : decode code 704 = .ok (.aload_n 0, 1) := by decide +kernel
theorem dL_law_705 : decode code 705 = .ok (.iload_n 3, 1) := by decide +kernel
theorem dL_law_706 : decode code 706 = .ok (.iconst 1, 1) := by decide +kernel
theorem dL_law_707 : decode code 707 = .ok (.iadd, 1) := by decide +kernel
theorem dL_law_708 : decode code 708 = .ok (.iaload, 1) := by decide +kernel
theorem dL_law_709 : decode code 709 = .ok (.aload_n 0, 1) := by decide +kernel
theorem dL_law_710 : decode code 710 = .ok (.iload_n 3, 1) := by decide +kernel
theorem dL_law_711 : decode code 711 = .ok (.iconst 2, 1) := by decide +kernel
theorem dL_law_712 : decode code 712 = .ok (.iadd, 1) := by decide +kernel
theorem dL_law_713 : decode code 713 = .ok (.iaload, 1) := by decide +kernel
theorem dL_law_714 : decode code 714 = .ok (.invokevirtual 69, 3) := by decide +kernel
theorem dL_law_717 : decode code 717 = .ok (.pop, 1) := by decide +kernel
theorem dL_law_718 : decode code 718 = .ok (.aload_n 2, 1) := by decide +kernel
theorem dL_law_719 : decode code 719 = .ok (.aload_n 0, 1) := by decide +kernel
theorem dL_law_720 : decode code 720 = .ok (.iload_n 3, 1) := by decide +kernel
theorem dL_law_721 : decode code 721 = .ok (.iconst 1, 1) := by decide +kernel
theorem dL_law_722 : decode code 722 = .ok (.iadd, 1) := by decide +kernel
theorem dL_law_723 : decode code 723 = .ok (.iaload, 1) := by decide +kernel
theorem dL_law_724 : decode code 724 = .ok (.aload_n 0, 1) := by decide +kernel
theorem dL_law_725 : decode code 725 = .ok (.iload_n 3, 1) := by decide +kernel
theorem dL_law_726 : decode code 726 = .ok (.iconst 2, 1) := by decide +kernel
theorem dL_law_727 : decode code 727 = .ok (.iadd, 1) := by decide +kernel
theorem dL_law_728 : decode code 728 = .ok (.iaload, 1) := by decide +kernel
theorem dL_law_729 : decode code 729 = .ok (.invokevirtual 72, 3) := by decide +kernel
theorem dL_law_732 : decode code 732 = .ok (.pop, 1) := by decide +kernel
theorem dL_law_733 : decode code 733 = .ok (.goto 1273, 3) := by decide +kernel
theorem dL_law_736 : decode code 736 = .ok (.aload_n 1, 1) := by decide +kernel
theorem dL_law_737 : decode code 737 = .ok (.aload_n 0, 1) := by decide +kernel
theorem dL_law_738 : decode code 738 = .ok (.iload_n 3, 1) := by decide +kernel
theorem dL_law_739 : decode code 739 = .ok (.iconst 1, 1) := by decide +kernel
theorem dL_law_740 : decode code 740 = .ok (.iadd, 1) := by decide +kernel
theorem dL_law_741 : decode code 741 = .ok (.iaload, 1) := by decide +kernel
theorem dL_law_742 : decode code 742 = .ok (.aload_n 0, 1) := by decide +kernel
theorem dL_law_743 : decode code 743 = .ok (.iload_n 3, 1) := by decide +kernel
theorem dL_law_744 : decode code 744 = .ok (.iconst 2, 1) := by decide +kernel
theorem dL_law_745 : decode code 745 = .ok (.iadd, 1) := by decide +kernel
theorem dL_law_746 : decode code 746 = .ok (.iaload, 1) := by decide +kernel
theorem dL_law_747 : decode code 747 = .ok (.invokevirtual 73, 3) := by decide +kernel
theorem dL_law_750 : decode code 750 = .ok (.pop, 1) := by decide +kernel
theorem dL_law_751 : decode code 751 = .ok (.aload_n 2, 1) := by decide +kernel
theorem dL_law_752 : decode code 752 = .ok (.aload_n 0, 1) := by decide +kernel
theorem dL_law_753 : decode code 753 = .ok (.iload_n 3, 1) := by decide +kernel
theorem dL_law_754 : decode code 754 = .ok (.iconst 1, 1) := by decide +kernel
theorem dL_law_755 : decode code 755 = .ok (.iadd, 1) := by decide +kernel
theorem dL_law_756 : decode code 756 = .ok (.iaload, 1) := by decide +kernel
theorem dL_law_757 : decode code 757 = .ok (.aload_n 0, 1) := by decide +kernel
theorem dL_law_758 : decode code 758 = .ok (.iload_n 3, 1) := by decide +kernel
theorem dL_law_759 : decode code 759 = .ok (.iconst 2, 1) := by decide +kernel
theorem dL_law_760 : decode code 760 = .ok (.iadd, 1) := by decide +kernel
theorem dL_law_761 : decode code 761 = .ok (.iaload, 1) := by decide +kernel
theorem dL_law_762 : decode code 762 = .ok (.invokevirtual 76, 3) := by decide +kernel
theorem dL_law_765 : decode code 765 = .ok (.pop, 1) := by decide +kernel
theorem dL_law_766 : decode code 766 = .ok (.goto 1240, 3) := by decide +kernel
theorem dL_law_769 : decode code 769 = .ok (.aload_n 1, 1) := by decide +kernel
theorem dL_law_770 : decode code 770 = .ok (.aload_n 0, 1) := by decide +kernel
theorem dL_law_771 : decode code 771 = .ok (.iload_n 3, 1) := by decide +kernel
theorem dL_law_772 : decode code 772 = .ok (.iconst 1, 1) := by decide +kernel
theorem dL_law_773 : decode code 773 = .ok (.iadd, 1) := by decide +kernel
theorem dL_law_774 : decode code 774 = .ok (.iaload, 1) := by decide +kernel
theorem dL_law_775 : decode code 775 = .ok (.aload_n 0, 1) := by decide +kernel
theorem dL_law_776 : decode code 776 = .ok (.iload_n 3, 1) := by decide +kernel
theorem dL_law_777 : decode code 777 = .ok (.iconst 2, 1) := by decide +kernel
theorem dL_law_778 : decode code 778 = .ok (.iadd, 1) := by decide +kernel
theorem dL_law_779 : decode code 779 = .ok (.iaload, 1) := by decide +kernel
theorem dL_law_780 : decode code 780 = .ok (.invokevirtual 77, 3) := by decide +kernel
theorem dL_law_783 : decode code 783 = .ok (.pop, 1) := by decide +kernel
theorem dL_law_784 : decode code 784 = .ok (.aload_n 2, 1) := by decide +kernel
theorem dL_law_785 : decode code 785 = .ok (.aload_n 0, 1) := by decide +kernel
theorem dL_law_786 : decode code 786 = .ok (.iload_n 3, 1) := by decide +kernel
theorem dL_law_787 : decode code 787 = .ok (.iconst 1, 1) := by decide +kernel
theorem dL_law_788 : decode code 788 = .ok (.iadd, 1) := by decide +kernel
theorem dL_law_789 : decode code 789 = .ok (.iaload, 1) := by decide +kernel
theorem dL_law_790 : decode code 790 = .ok (.aload_n 0, 1) := by decide +kernel
theorem dL_law_791 : decode code 791 = .ok (.iload_n 3, 1) := by decide +kernel
theorem dL_law_792 : decode code 792 = .ok (.iconst 2, 1) := by decide +kernel
theorem dL_law_793 : decode code 793 = .ok (.iadd, 1) := by decide +kernel
theorem dL_law_794 : decode code 794 = .ok (.iaload, 1) := by decide +kernel
theorem dL_law_795 : decode code 795 = .ok (.invokevirtual 80, 3) := by decide +kernel
theorem dL_law_798 : decode code 798 = .ok (.pop, 1) := by decide +kernel
theorem dL_law_799 : decode code 799 = .ok (.goto 1207, 3) := by decide +kernel
theorem dL_law_802 : decode code 802 = .ok (.aload_n 1, 1) := by decide +kernel
theorem dL_law_803 : decode code 803 = .ok (.aload_n 0, 1) := by decide +kernel
theorem dL_law_804 : decode code 804 = .ok (.iload_n 3, 1) := by decide +kernel
theorem dL_law_805 : decode code 805 = .ok (.iconst 1, 1) := by decide +kernel
theorem dL_law_806 : decode code 806 = .ok (.iadd, 1) := by decide +kernel
theorem dL_law_807 : decode code 807 = .ok (.iaload, 1) := by decide +kernel
theorem dL_law_808 : decode code 808 = .ok (.invokevirtual 81, 3) := by decide +kernel
theorem dL_law_811 : decode code 811 = .ok (.pop, 1) := by decide +kernel
theorem dL_law_812 : decode code 812 = .ok (.aload_n 2, 1) := by decide +kernel
theorem dL_law_813 : decode code 813 = .ok (.aload_n 0, 1) := by decide +kernel
theorem dL_law_814 : decode code 814 = .ok (.iload_n 3, 1) := by decide +kernel
theorem dL_law_815 : decode code 815 = .ok (.iconst 1, 1) := by decide +kernel
theorem dL_law_816 : decode code 816 = .ok (.iadd, 1) := by decide +kernel
theorem dL_law_817 : decode code 817 = .ok (.iaload, 1) := by decide +kernel
theorem dL_law_818 : decode code 818 = .ok (.invokevirtual 84, 3) := by decide +kernel
theorem dL_law_821 : decode code 821 = .ok (.pop, 1) := by decide +kernel
theorem dL_law_822 : decode code 822 = .ok (.goto 1184, 3) := by decide +kernel
theorem dL_law_825 : decode code 825 = .ok (.aload_n 1, 1) := by decide +kernel
theorem dL_law_826 : decode code 826 = .ok (.aload_n 0, 1) := by decide +kernel
theorem dL_law_827 : decode code 827 = .ok (.iload_n 3, 1) := by decide +kernel
theorem dL_law_828 : decode code 828 = .ok (.iconst 1, 1) := by decide +kernel
theorem dL_law_829 : decode code 829 = .ok (.iadd, 1) := by decide +kernel
theorem dL_law_830 : decode code 830 = .ok (.iaload, 1) := by decide +kernel
theorem dL_law_831 : decode code 831 = .ok (.aload_n 0, 1) := by decide +kernel
theorem dL_law_832 : decode code 832 = .ok (.iload_n 3, 1) := by decide +kernel
theorem dL_law_833 : decode code 833 = .ok (.iconst 2, 1) := by decide +kernel
theorem dL_law_834 : decode code 834 = .ok (.iadd, 1) := by decide +kernel
theorem dL_law_835 : decode code 835 = .ok (.iaload, 1) := by decide +kernel
theorem dL_law_836 : decode code 836 = .ok (.invokevirtual 85, 3) := by decide +kernel
theorem dL_law_839 : decode code 839 = .ok (.pop, 1) := by decide +kernel
theorem dL_law_840 : decode code 840 = .ok (.aload_n 2, 1) := by decide +kernel
theorem dL_law_841 : decode code 841 = .ok (.aload_n 0, 1) := by decide +kernel
theorem dL_law_842 : decode code 842 = .ok (.iload_n 3, 1) := by decide +kernel
theorem dL_law_843 : decode code 843 = .ok (.iconst 1, 1) := by decide +kernel
theorem dL_law_844 : decode code 844 = .ok (.iadd, 1) := by decide +kernel
theorem dL_law_845 : decode code 845 = .ok (.iaload, 1) := by decide +kernel
theorem dL_law_846 : decode code 846 = .ok (.aload_n 0, 1) := by decide +kernel
theorem dL_law_847 : decode code 847 = .ok (.iload_n 3, 1) := by decide +kernel
theorem dL_law_848 : decode code 848 = .ok (.iconst 2, 1) := by decide +kernel
theorem dL_law_849 : decode code 849 = .ok (.iadd, 1) := by decide +kernel
theorem dL_law_850 : decode code 850 = .ok (.iaload, 1) := by decide +kernel
theorem dL_law_851 : decode code 851 = .ok (.invokevirtual 88, 3) := by decide +kernel
theorem dL_law_854 : decode code 854 = .ok (.pop, 1) := by decide +kernel
theorem dL_law_855 : decode code 855 = .ok (.goto 1151, 3) := by decide +kernel
theorem dL_law_858 : decode code 858 = .ok (.aload_n 1, 1) := by decide +kernel
theorem dL_law_859 : decode code 859 = .ok (.aload_n 0, 1) := by decide +kernel
theorem dL_law_860 : decode code 860 = .ok (.iload_n 3, 1) := by decide +kernel
theorem dL_law_861 : decode code 861 = .ok (.iconst 1, 1) := by decide +kernel
theorem dL_law_862 : decode code 862 = .ok (.iadd, 1) := by decide +kernel
theorem dL_law_863 : decode code 863 = .ok (.iaload, 1) := by decide +kernel
theorem dL_law_864 : decode code 864 = .ok (.invokevirtual 89, 3) := by decide +kernel
theorem dL_law_867 : decode code 867 = .ok (.pop, 1) := by decide +kernel
theorem dL_law_868 : decode code 868 = .ok (.aload_n 2, 1) := by decide +kernel
theorem dL_law_869 : decode code 869 = .ok (.aload_n 0, 1) := by decide +kernel
theorem dL_law_870 : decode code 870 = .ok (.iload_n 3, 1) := by decide +kernel
theorem dL_law_871 : decode code 871 = .ok (.iconst 1, 1) := by decide +kernel
theorem dL_law_872 : decode code 872 = .ok (.iadd, 1) := by decide +kernel
theorem dL_law_873 : decode code 873 = .ok (.iaload, 1) := by decide +kernel
theorem dL_law_874 : decode code 874 = .ok (.invokevirtual 92, 3) := by decide +kernel
theorem dL_law_877 : decode code 877 = .ok (.pop, 1) := by decide +kernel
theorem dL_law_878 : decode code 878 = .ok (.goto 1128, 3) := by decide +kernel
theorem dL_law_881 : decode code 881 = .ok (.aload_n 1, 1) := by decide +kernel
theorem dL_law_882 : decode code 882 = .ok (.aload_n 0, 1) := by decide +kernel
theorem dL_law_883 : decode code 883 = .ok (.iload_n 3, 1) := by decide +kernel
theorem dL_law_884 : decode code 884 = .ok (.iconst 1, 1) := by decide +kernel
theorem dL_law_885 : decode code 885 = .ok (.iadd, 1) := by decide +kernel
theorem dL_law_886 : decode code 886 = .ok (.iaload, 1) := by decide +kernel
theorem dL_law_887 : decode code 887 = .ok (.invokevirtual 93, 3) := by decide +kernel
theorem dL_law_890 : decode code 890 = .ok (.pop, 1) := by decide +kernel
theorem dL_law_891 : decode code 891 = .ok (.aload_n 2, 1) := by decide +kernel
theorem dL_law_892 : decode code 892 = .ok (.aload_n 0, 1) := by decide +kernel
theorem dL_law_893 : decode code 893 = .ok (.iload_n 3, 1) := by decide +kernel
theorem dL_law_894 : decode code 894 = .ok (.iconst 1, 1) := by decide +kernel
theorem dL_law_895 : decode code 895 = .ok (.iadd, 1) := by decide +kernel
theorem dL_law_896 : decode code 896 = .ok (.iaload, 1) := by decide +kernel
theorem dL_law_897 : decode code 897 = .ok (.invokevirtual 96, 3) := by decide +kernel
theorem dL_law_900 : decode code 900 = .ok (.pop, 1) := by decide +kernel
theorem dL_law_901 : decode code 901 = .ok (.goto 1105, 3) := by decide +kernel
theorem dL_law_904 : decode code 904 = .ok (.aload_n 1, 1) := by decide +kernel
theorem dL_law_905 : decode code 905 = .ok (.invokevirtual 97, 3) := by decide +kernel
theorem dL_law_908 : decode code 908 = .ok (.pop, 1) := by decide +kernel
theorem dL_law_909 : decode code 909 = .ok (.aload_n 2, 1) := by decide +kernel
theorem dL_law_910 : decode code 910 = .ok (.invokevirtual 100, 3) := by decide +kernel
theorem dL_law_913 : decode code 913 = .ok (.pop, 1) := by decide +kernel
theorem dL_law_914 : decode code 914 = .ok (.goto 1092, 3) := by decide +kernel
theorem dL_law_917 : decode code 917 = .ok (.aload_n 1, 1) := by decide +kernel
theorem dL_law_918 : decode code 918 = .ok (.invokevirtual 101, 3) := by decide +kernel
theorem dL_law_921 : decode code 921 = .ok (.pop, 1) := by decide +kernel
theorem dL_law_922 : decode code 922 = .ok (.aload_n 2, 1) := by decide +kernel
theorem dL_law_923 : decode code 923 = .ok (.invokevirtual 104, 3) := by decide +kernel
theorem dL_law_926 : decode code 926 = .ok (.pop, 1) := by decide +kernel
theorem dL_law_927 : decode code 927 = .ok (.goto 1079, 3) := by decide +kernel
theorem dL_law_930 : decode code 930 = .ok (.aload_n 1, 1) := by decide +kernel
theorem dL_law_931 : decode code 931 = .ok (.invokevirtual 105, 3) := by decide +kernel
theorem dL_law_934 : decode code 934 = .ok (.pop, 1) := by decide +kernel
theorem dL_law_935 : decode code 935 = .ok (.aload_n 2, 1) := by decide +kernel
theorem dL_law_936 : decode code 936 = .ok (.invokevirtual 108, 3) := by decide +kernel
theorem dL_law_939 : decode code 939 = .ok (.pop, 1) := by decide +kernel
theorem dL_law_940 : decode code 940 = .ok (.goto 1066, 3) := by decide +kernel
theorem dL_law_943 : decode code 943 = .ok (.aload_n 1, 1) := by decide +kernel
theorem dL_law_944 : decode code 944 = .ok (.invokevirtual 109, 3) := by decide +kernel
theorem dL_law_947 : decode code 947 = .ok (.pop, 1) := by decide +kernel
theorem dL_law_948 : decode code 948 = .ok (.aload_n 2, 1) := by decide +kernel
theorem dL_law_949 : decode code 949 = .ok (.invokevirtual 112, 3) := by decide +kernel
theorem dL_law_952 : decode code 952 = .ok (.pop, 1) := by decide +kernel
theorem dL_law_953 : decode code 953 = .ok (.goto 1053, 3) := by decide +kernel
theorem dL_law_956 : decode code 956 = .ok (.aload_n 1, 1) := by decide +kernel
theorem dL_law_957 : decode code 957 = .ok (.invokevirtual 113, 3) := by decide +kernel
theorem dL_law_960 : decode code 960 = .ok (.pop, 1) := by decide +kernel
theorem dL_law_961 : decode code 961 = .ok (.aload_n 2, 1) := by decide +kernel
theorem dL_law_962 : decode code 962 = .ok (.invokevirtual 116, 3) := by decide +kernel
theorem dL_law_965 : decode code 965 = .ok (.pop, 1) := by decide +kernel
theorem dL_law_966 : decode code 966 = .ok (.goto 1040, 3) := by decide +kernel
theorem dL_law_969 : decode code 969 = .ok (.aload_n 1, 1) := by decide +kernel
theorem dL_law_970 : decode code 970 = .ok (.aload_n 0, 1) := by decide +kernel
theorem dL_law_971 : decode code 971 = .ok (.iload_n 3, 1) := by decide +kernel
theorem dL_law_972 : decode code 972 = .ok (.iconst 1, 1) := by decide +kernel
theorem dL_law_973 : decode code 973 = .ok (.iadd, 1) := by decide +kernel
theorem dL_law_974 : decode code 974 = .ok (.iaload, 1) := by decide +kernel
theorem dL_law_975 : decode code 975 = .ok (.invokevirtual 117, 3) := by decide +kernel
theorem dL_law_978 : decode code 978 = .ok (.pop, 1) := by decide +kernel
theorem dL_law_979 : decode code 979 = .ok (.aload_n 2, 1) := by decide +kernel
theorem dL_law_980 : decode code 980 = .ok (.aload_n 0, 1) := by decide +kernel
theorem dL_law_981 : decode code 981 = .ok (.iload_n 3, 1) := by decide +kernel
theorem dL_law_982 : decode code 982 = .ok (.iconst 1, 1) := by decide +kernel
theorem dL_law_983 : decode code 983 = .ok (.iadd, 1) := by decide +kernel
theorem dL_law_984 : decode code 984 = .ok (.iaload, 1) := by decide +kernel
theorem dL_law_985 : decode code 985 = .ok (.invokevirtual 120, 3) := by decide +kernel
theorem dL_law_988 : decode code 988 = .ok (.pop, 1) := by decide +kernel
theorem dL_law_989 : decode code 989 = .ok (.goto 1017, 3) := by decide +kernel
theorem dL_law_992 : decode code 992 = .ok (.aload_n 1, 1) := by decide +kernel
theorem dL_law_993 : decode code 993 = .ok (.invokevirtual 121, 3) := by decide +kernel
theorem dL_law_996 : decode code 996 = .ok (.pop, 1) := by decide +kernel
theorem dL_law_997 : decode code 997 = .ok (.aload_n 2, 1) := by decide +kernel
theorem dL_law_998 : decode code 998 = .ok (.invokevirtual 124, 3) := by decide +kernel
theorem dL_law_1001 : decode code 1001 = .ok (.pop, 1) := by decide +kernel
theorem dL_law_1002 : decode code 1002 = .ok (.goto 1004, 3) := by decide +kernel
theorem dL_law_1005 : decode code 1005 = .ok (.aload_n 1, 1) := by decide +kernel
theorem dL_law_1006 : decode code 1006 = .ok (.aload_n 0, 1) := by decide +kernel
theorem dL_law_1007 : decode code 1007 = .ok (.iload_n 3, 1) := by decide +kernel
theorem dL_law_1008 : decode code 1008 = .ok (.iconst 1, 1) := by decide +kernel
theorem dL_law_1009 : decode code 1009 = .ok (.iadd, 1) := by decide +kernel
theorem dL_law_1010 : decode code 1010 = .ok (.iaload, 1) := by decide +kernel
theorem dL_law_1011 : decode code 1011 = .ok (.invokevirtual 125, 3) := by decide +kernel
theorem dL_law_1014 : decode code 1014 = .ok (.pop, 1) := by decide +kernel
theorem dL_law_1015 : decode code 1015 = .ok (.aload_n 2, 1) := by decide +kernel
theorem dL_law_1016 : decode code 1016 = .ok (.aload_n 0, 1) := by decide +kernel
theorem dL_law_1017 : decode code 1017 = .ok (.iload_n 3, 1) := by decide +kernel
theorem dL_law_1018 : decode code 1018 = .ok (.iconst 1, 1) := by decide +kernel
theorem dL_law_1019 : decode code 1019 = .ok (.iadd, 1) := by decide +kernel
theorem dL_law_1020 : decode code 1020 = .ok (.iaload, 1) := by decide +kernel
theorem dL_law_1021 : decode code 1021 = .ok (.invokevirtual 128, 3) := by decide +kernel
theorem dL_law_1024 : decode code 1024 = .ok (.pop, 1) := by decide +kernel
theorem dL_law_1025 : decode code 1025 = .ok (.goto 981, 3) := by decide +kernel
theorem dL_law_1028 : decode code 1028 = .ok (.aload_n 1, 1) := by decide +kernel
theorem dL_law_1029 : decode code 1029 = .ok (.aload_n 0, 1) := by decide +kernel
theorem dL_law_1030 : decode code 1030 = .ok (.iload_n 3, 1) := by decide +kernel
theorem dL_law_1031 : decode code 1031 = .ok (.iconst 1, 1) := by decide +kernel
theorem dL_law_1032 : decode code 1032 = .ok (.iadd, 1) := by decide +kernel
theorem dL_law_1033 : decode code 1033 = .ok (.iaload, 1) := by decide +kernel
theorem dL_law_1034 : decode code 1034 = .ok (.invokevirtual 129, 3) := by decide +kernel
theorem dL_law_1037 : decode code 1037 = .ok (.pop, 1) := by decide +kernel
theorem dL_law_1038 : decode code 1038 = .ok (.aload_n 2, 1) := by decide +kernel
theorem dL_law_1039 : decode code 1039 = .ok (.aload_n 0, 1) := by decide +kernel
theorem dL_law_1040 : decode code 1040 = .ok (.iload_n 3, 1) := by decide +kernel
theorem dL_law_1041 : decode code 1041 = .ok (.iconst 1, 1) := by decide +kernel
theorem dL_law_1042 : decode code 1042 = .ok (.iadd, 1) := by decide +kernel
theorem dL_law_1043 : decode code 1043 = .ok (.iaload, 1) := by decide +kernel
theorem dL_law_1044 : decode code 1044 = .ok (.invokevirtual 132, 3) := by decide +kernel
theorem dL_law_1047 : decode code 1047 = .ok (.pop, 1) := by decide +kernel
theorem dL_law_1048 : decode code 1048 = .ok (.goto 958, 3) := by decide +kernel
theorem dL_law_1051 : decode code 1051 = .ok (.aload_n 1, 1) := by decide +kernel
theorem dL_law_1052 : decode code 1052 = .ok (.aload_n 0, 1) := by decide +kernel
theorem dL_law_1053 : decode code 1053 = .ok (.iload_n 3, 1) := by decide +kernel
theorem dL_law_1054 : decode code 1054 = .ok (.iconst 1, 1) := by decide +kernel
theorem dL_law_1055 : decode code 1055 = .ok (.iadd, 1) := by decide +kernel
theorem dL_law_1056 : decode code 1056 = .ok (.iaload, 1) := by decide +kernel
theorem dL_law_1057 : decode code 1057 = .ok (.invokevirtual 133, 3) := by decide +kernel
theorem dL_law_1060 : decode code 1060 = .ok (.pop, 1) := by decide +kernel
theorem dL_law_1061 : decode code 1061 = .ok (.aload_n 2, 1) := by decide +kernel
theorem dL_law_1062 : decode code 1062 = .ok (.aload_n 0, 1) := by decide +kernel
theorem dL_law_1063 : decode code 1063 = .ok (.iload_n 3, 1) := by decide +kernel
theorem dL_law_1064 : decode code 1064 = .ok (.iconst 1, 1) := by decide +kernel
theorem dL_law_1065 : decode code 1065 = .ok (.iadd, 1) := by decide +kernel
theorem dL_law_1066 : decode code 1066 = .ok (.iaload, 1) := by decide +kernel
theorem dL_law_1067 : decode code 1067 = .ok (.invokevirtual 136, 3) := by decide +kernel
theorem dL_law_1070 : decode code 1070 = .ok (.pop, 1) := by decide +kernel
theorem dL_law_1071 : decode code 1071 = .ok (.goto 935, 3) := by decide +kernel
theorem dL_law_1074 : decode code 1074 = .ok (.aload_n 1, 1) := by decide +kernel
theorem dL_law_1075 : decode code 1075 = .ok (.invokevirtual 137, 3) := by decide +kernel
theorem dL_law_1078 : decode code 1078 = .ok (.pop, 1) := by decide +kernel
theorem dL_law_1079 : decode code 1079 = .ok (.aload_n 2, 1) := by decide +kernel
theorem dL_law_1080 : decode code 1080 = .ok (.invokevirtual 140, 3) := by decide +kernel
theorem dL_law_1083 : decode code 1083 = .ok (.pop, 1) := by decide +kernel
theorem dL_law_1084 : decode code 1084 = .ok (.goto 922, 3) := by decide +kernel
theorem dL_law_1087 : decode code 1087 = .ok (.aload_n 1, 1) := by decide +kernel
theorem dL_law_1088 : decode code 1088 = .ok (.aload_n 0, 1) := by decide +kernel
theorem dL_law_1089 : decode code 1089 = .ok (.iload_n 3, 1) := by decide +kernel
theorem dL_law_1090 : decode code 1090 = .ok (.iconst 1, 1) := by decide +kernel
theorem dL_law_1091 : decode code 1091 = .ok (.iadd, 1) := by decide +kernel
theorem dL_law_1092 : decode code 1092 = .ok (.iaload, 1) := by decide +kernel
theorem dL_law_1093 : decode code 1093 = .ok (.invokevirtual 141, 3) := by decide +kernel
theorem dL_law_1096 : decode code 1096 = .ok (.pop, 1) := by decide +kernel
theorem dL_law_1097 : decode code 1097 = .ok (.aload_n 2, 1) := by decide +kernel
theorem dL_law_1098 : decode code 1098 = .ok (.aload_n 0, 1) := by decide +kernel
theorem dL_law_1099 : decode code 1099 = .ok (.iload_n 3, 1) := by decide +kernel
theorem dL_law_1100 : decode code 1100 = .ok (.iconst 1, 1) := by decide +kernel
theorem dL_law_1101 : decode code 1101 = .ok (.iadd, 1) := by decide +kernel
theorem dL_law_1102 : decode code 1102 = .ok (.iaload, 1) := by decide +kernel
theorem dL_law_1103 : decode code 1103 = .ok (.invokevirtual 144, 3) := by decide +kernel
theorem dL_law_1106 : decode code 1106 = .ok (.pop, 1) := by decide +kernel
theorem dL_law_1107 : decode code 1107 = .ok (.goto 899, 3) := by decide +kernel
theorem dL_law_1110 : decode code 1110 = .ok (.aload_n 1, 1) := by decide +kernel
theorem dL_law_1111 : decode code 1111 = .ok (.invokevirtual 145, 3) := by decide +kernel
theorem dL_law_1114 : decode code 1114 = .ok (.pop, 1) := by decide +kernel
theorem dL_law_1115 : decode code 1115 = .ok (.aload_n 2, 1) := by decide +kernel
theorem dL_law_1116 : decode code 1116 = .ok (.invokevirtual 148, 3) := by decide +kernel
theorem dL_law_1119 : decode code 1119 = .ok (.pop, 1) := by decide +kernel
theorem dL_law_1120 : decode code 1120 = .ok (.goto 886, 3) := by decide +kernel
theorem dL_law_1123 : decode code 1123 = .ok (.aload_n 1, 1) := by decide +kernel
theorem dL_law_1124 : decode code 1124 = .ok (.aload_n 0, 1) := by decide +kernel
theorem dL_law_1125 : decode code 1125 = .ok (.iload_n 3, 1) := by decide +kernel
theorem dL_law_1126 : decode code 1126 = .ok (.iconst 1, 1) := by decide +kernel
theorem dL_law_1127 : decode code 1127 = .ok (.iadd, 1) := by decide +kernel
theorem dL_law_1128 : decode code 1128 = .ok (.iaload, 1) := by decide +kernel
theorem dL_law_1129 : decode code 1129 = .ok (.invokevirtual 149, 3) := by decide +kernel
theorem dL_law_1132 : decode code 1132 = .ok (.pop, 1) := by decide +kernel
theorem dL_law_1133 : decode code 1133 = .ok (.aload_n 2, 1) := by decide +kernel
theorem dL_law_1134 : decode code 1134 = .ok (.aload_n 0, 1) := by decide +kernel
theorem dL_law_1135 : decode code 1135 = .ok (.iload_n 3, 1) := by decide +kernel
theorem dL_law_1136 : decode code 1136 = .ok (.iconst 1, 1) := by decide +kernel
theorem dL_law_1137 : decode code 1137 = .ok (.iadd, 1) := by decide +kernel
theorem dL_law_1138 : decode code 1138 = .ok (.iaload, 1) := by decide +kernel
theorem dL_law_1139 : decode code 1139 = .ok (.invokevirtual 152, 3) := by decide +kernel
theorem dL_law_1142 : decode code 1142 = .ok (.pop, 1) := by decide +kernel
theorem dL_law_1143 : decode code 1143 = .ok (.goto 863, 3) := by decide +kernel
theorem dL_law_1146 : decode code 1146 = .ok (.aload_n 1, 1) := by decide +kernel
theorem dL_law_1147 : decode code 1147 = .ok (.aload_n 0, 1) := by decide +kernel
theorem dL_law_1148 : decode code 1148 = .ok (.iload_n 3, 1) := by decide +kernel
theorem dL_law_1149 : decode code 1149 = .ok (.iconst 1, 1) := by decide +kernel
theorem dL_law_1150 : decode code 1150 = .ok (.iadd, 1) := by decide +kernel
theorem dL_law_1151 : decode code 1151 = .ok (.iaload, 1) := by decide +kernel
theorem dL_law_1152 : decode code 1152 = .ok (.invokevirtual 153, 3) := by decide +kernel
theorem dL_law_1155 : decode code 1155 = .ok (.pop, 1) := by decide +kernel
theorem dL_law_1156 : decode code 1156 = .ok (.aload_n 2, 1) := by decide +kernel
theorem dL_law_1157 : decode code 1157 = .ok (.aload_n 0, 1) := by decide +kernel
theorem dL_law_1158 : decode code 1158 = .ok (.iload_n 3, 1) := by decide +kernel
theorem dL_law_1159 : decode code 1159 = .ok (.iconst 1, 1) := by decide +kernel
theorem dL_law_1160 : decode code 1160 = .ok (.iadd, 1) := by decide +kernel
theorem dL_law_1161 : decode code 1161 = .ok (.iaload, 1) := by decide +kernel
theorem dL_law_1162 : decode code 1162 = .ok (.invokevirtual 156, 3) := by decide +kernel
theorem dL_law_1165 : decode code 1165 = .ok (.pop, 1) := by decide +kernel
theorem dL_law_1166 : decode code 1166 = .ok (.goto 840, 3) := by decide +kernel
theorem dL_law_1169 : decode code 1169 = .ok (.aload_n 1, 1) := by decide +kernel
theorem dL_law_1170 : decode code 1170 = .ok (.aload_n 0, 1) := by decide +kernel
theorem dL_law_1171 : decode code 1171 = .ok (.iload_n 3, 1) := by decide +kernel
theorem dL_law_1172 : decode code 1172 = .ok (.iconst 1, 1) := by decide +kernel
theorem dL_law_1173 : decode code 1173 = .ok (.iadd, 1) := by decide +kernel
theorem dL_law_1174 : decode code 1174 = .ok (.iaload, 1) := by decide +kernel
theorem dL_law_1175 : decode code 1175 = .ok (.invokevirtual 157, 3) := by decide +kernel
theorem dL_law_1178 : decode code 1178 = .ok (.pop, 1) := by decide +kernel
theorem dL_law_1179 : decode code 1179 = .ok (.aload_n 2, 1) := by decide +kernel
theorem dL_law_1180 : decode code 1180 = .ok (.aload_n 0, 1) := by decide +kernel
theorem dL_law_1181 : decode code 1181 = .ok (.iload_n 3, 1) := by decide +kernel
theorem dL_law_1182 : decode code 1182 = .ok (.iconst 1, 1) := by decide +kernel
theorem dL_law_1183 : decode code 1183 = .ok (.iadd, 1) := by decide +kernel
theorem dL_law_1184 : decode code 1184 = .ok (.iaload, 1) := by decide +kernel
theorem dL_law_1185 : decode code 1185 = .ok (.invokevirtual 160, 3) := by decide +kernel
theorem dL_law_1188 : decode code 1188 = .ok (.pop, 1) := by decide +kernel
theorem dL_law_1189 : decode code 1189 = .ok (.goto 817, 3) := by decide +kernel
theorem dL_law_1192 : decode code 1192 = .ok (.aload_n 1, 1) := by decide +kernel
theorem dL_law_1193 : decode code 1193 = .ok (.aload_n 0, 1) := by decide +kernel
theorem dL_law_1194 : decode code 1194 = .ok (.iload_n 3, 1) := by decide +kernel
theorem dL_law_1195 : decode code 1195 = .ok (.iconst 1, 1) := by decide +kernel
theorem dL_law_1196 : decode code 1196 = .ok (.iadd, 1) := by decide +kernel
theorem dL_law_1197 : decode code 1197 = .ok (.iaload, 1) := by decide +kernel
theorem dL_law_1198 : decode code 1198 = .ok (.invokevirtual 161, 3) := by decide +kernel
theorem dL_law_1201 : decode code 1201 = .ok (.pop, 1) := by decide +kernel
theorem dL_law_1202 : decode code 1202 = .ok (.aload_n 2, 1) := by decide +kernel
theorem dL_law_1203 : decode code 1203 = .ok (.aload_n 0, 1) := by decide +kernel
theorem dL_law_1204 : decode code 1204 = .ok (.iload_n 3, 1) := by decide +kernel
theorem dL_law_1205 : decode code 1205 = .ok (.iconst 1, 1) := by decide +kernel
theorem dL_law_1206 : decode code 1206 = .ok (.iadd, 1) := by decide +kernel
theorem dL_law_1207 : decode code 1207 = .ok (.iaload, 1) := by decide +kernel
theorem dL_law_1208 : decode code 1208 = .ok (.invokevirtual 164, 3) := by decide +kernel
theorem dL_law_1211 : decode code 1211 = .ok (.pop, 1) := by decide +kernel
theorem dL_law_1212 : decode code 1212 = .ok (.goto 794, 3) := by decide +kernel
theorem dL_law_1215 : decode code 1215 = .ok (.aload_n 1, 1) := by decide +kernel
theorem dL_law_1216 : decode code 1216 = .ok (.invokevirtual 165, 3) := by decide +kernel
theorem dL_law_1219 : decode code 1219 = .ok (.pop, 1) := by decide +kernel
theorem dL_law_1220 : decode code 1220 = .ok (.aload_n 2, 1) := by decide +kernel
theorem dL_law_1221 : decode code 1221 = .ok (.invokevirtual 168, 3) := by decide +kernel
theorem dL_law_1224 : decode code 1224 = .ok (.pop, 1) := by decide +kernel
theorem dL_law_1225 : decode code 1225 = .ok (.goto 781, 3) := by decide +kernel
theorem dL_law_1228 : decode code 1228 = .ok (.aload_n 1, 1) := by decide +kernel
theorem dL_law_1229 : decode code 1229 = .ok (.invokevirtual 169, 3) := by decide +kernel
theorem dL_law_1232 : decode code 1232 = .ok (.pop, 1) := by decide +kernel
theorem dL_law_1233 : decode code 1233 = .ok (.aload_n 2, 1) := by decide +kernel
theorem dL_law_1234 : decode code 1234 = .ok (.invokevirtual 172, 3) := by decide +kernel
theorem dL_law_1237 : decode code 1237 = .ok (.pop, 1) := by decide +kernel
theorem dL_law_1238 : decode code 1238 = .ok (.goto 768, 3) := by decide +kernel
theorem dL_law_1241 : decode code 1241 = .ok (.aload_n 1, 1) := by decide +kernel
theorem dL_law_1242 : decode code 1242 = .ok (.aload_n 0, 1) := by decide +kernel
theorem dL_law_1243 : decode code 1243 = .ok (.iload_n 3, 1) := by decide +kernel
theorem dL_law_1244 : decode code 1244 = .ok (.iconst 1, 1) := by decide +kernel
theorem dL_law_1245 : decode code 1245 = .ok (.iadd, 1) := by decide +kernel
theorem dL_law_1246 : decode code 1246 = .ok (.iaload, 1) := by decide +kernel
theorem dL_law_1247 : decode code 1247 = .ok (.invokevirtual 173, 3) := by decide +kernel
theorem dL_law_1250 : decode code 1250 = .ok (.pop, 1) := by decide +kernel
theorem dL_law_1251 : decode code 1251 = .ok (.aload_n 2, 1) := by decide +kernel
theorem dL_law_1252 : decode code 1252 = .ok (.aload_n 0, 1) := by decide +kernel
theorem dL_law_1253 : decode code 1253 = .ok (.iload_n 3, 1) := by decide +kernel
theorem dL_law_1254 : decode code 1254 = .ok (.iconst 1, 1) := by decide +kernel
theorem dL_law_1255 : decode code 1255 = .ok (.iadd, 1) := by decide +kernel
theorem dL_law_1256 : decode code 1256 = .ok (.iaload, 1) := by decide +kernel
theorem dL_law_1257 : decode code 1257 = .ok (.invokevirtual 176, 3) := by decide +kernel
theorem dL_law_1260 : decode code 1260 = .ok (.pop, 1) := by decide +kernel
theorem dL_law_1261 : decode code 1261 = .ok (.goto 745, 3) := by decide +kernel
theorem dL_law_1264 : decode code 1264 = .ok (.aload_n 1, 1) := by decide +kernel
theorem dL_law_1265 : decode code 1265 = .ok (.aload_n 0, 1) := by decide +kernel
theorem dL_law_1266 : decode code 1266 = .ok (.iload_n 3, 1) := by decide +kernel
theorem dL_law_1267 : decode code 1267 = .ok (.iconst 1, 1) := by decide +kernel
theorem dL_law_1268 : decode code 1268 = .ok (.iadd, 1) := by decide +kernel
theorem dL_law_1269 : decode code 1269 = .ok (.iaload, 1) := by decide +kernel
theorem dL_law_1270 : decode code 1270 = .ok (.invokevirtual 177, 3) := by decide +kernel
theorem dL_law_1273 : decode code 1273 = .ok (.pop, 1) := by decide +kernel
theorem dL_law_1274 : decode code 1274 = .ok (.aload_n 2, 1) := by decide +kernel
theorem dL_law_1275 : decode code 1275 = .ok (.aload_n 0, 1) := by decide +kernel
theorem dL_law_1276 : decode code 1276 = .ok (.iload_n 3, 1) := by decide +kernel
theorem dL_law_1277 : decode code 1277 = .ok (.iconst 1, 1) := by decide +kernel
theorem dL_law_1278 : decode code 1278 = .ok (.iadd, 1) := by decide +kernel
theorem dL_law_1279 : decode code 1279 = .ok (.iaload, 1) := by decide +kernel
theorem dL_law_1280 : decode code 1280 = .ok (.invokevirtual 180, 3) := by decide +kernel
theorem dL_law_1283 : decode code 1283 = .ok (.pop, 1) := by decide +kernel
theorem dL_law_1284 : decode code 1284 = .ok (.goto 722, 3) := by decide +kernel
theorem dL_law_1287 : decode code 1287 = .ok (.aload_n 1, 1) := by decide +kernel
theorem dL_law_1288 : decode code 1288 = .ok (.invokevirtual 181, 3) := by decide +kernel
theorem dL_law_1291 : decode code 1291 = .ok (.pop, 1) := by decide +kernel
theorem dL_law_1292 : decode code 1292 = .ok (.aload_n 2, 1) := by decide +kernel
theorem dL_law_1293 : decode code 1293 = .ok (.invokevirtual 184, 3) := by decide +kernel
theorem dL_law_1296 : decode code 1296 = .ok (.pop, 1) := by decide +kernel
theorem dL_law_1297 : decode code 1297 = .ok (.goto 709, 3) := by decide +kernel
theorem dL_law_1300 : decode code 1300 = .ok (.aload_n 1, 1) := by decide +kernel
theorem dL_law_1301 : decode code 1301 = .ok (.aload_n 0, 1) := by decide +kernel
theorem dL_law_1302 : decode code 1302 = .ok (.iload_n 3, 1) := by decide +kernel
theorem dL_law_1303 : decode code 1303 = .ok (.iconst 1, 1) := by decide +kernel
theorem dL_law_1304 : decode code 1304 = .ok (.iadd, 1) := by decide +kernel
theorem dL_law_1305 : decode code 1305 = .ok (.iaload, 1) := by decide +kernel
theorem dL_law_1306 : decode code 1306 = .ok (.invokevirtual 185, 3) := by decide +kernel
theorem dL_law_1309 : decode code 1309 = .ok (.pop, 1) := by decide +kernel
theorem dL_law_1310 : decode code 1310 = .ok (.aload_n 2, 1) := by decide +kernel
theorem dL_law_1311 : decode code 1311 = .ok (.aload_n 0, 1) := by decide +kernel
theorem dL_law_1312 : decode code 1312 = .ok (.iload_n 3, 1) := by decide +kernel
theorem dL_law_1313 : decode code 1313 = .ok (.iconst 1, 1) := by decide +kernel
theorem dL_law_1314 : decode code 1314 = .ok (.iadd, 1) := by decide +kernel
theorem dL_law_1315 : decode code 1315 = .ok (.iaload, 1) := by decide +kernel
theorem dL_law_1316 : decode code 1316 = .ok (.invokevirtual 188, 3) := by decide +kernel
theorem dL_law_1319 : decode code 1319 = .ok (.pop, 1) := by decide +kernel
theorem dL_law_1320 : decode code 1320 = .ok (.goto 686, 3) := by decide +kernel
theorem dL_law_1323 : decode code 1323 = .ok (.aload_n 1, 1) := by decide +kernel
theorem dL_law_1324 : decode code 1324 = .ok (.aload_n 0, 1) := by decide +kernel
theorem dL_law_1325 : decode code 1325 = .ok (.iload_n 3, 1) := by decide +kernel
theorem dL_law_1326 : decode code 1326 = .ok (.iconst 1, 1) := by decide +kernel
theorem dL_law_1327 : decode code 1327 = .ok (.iadd, 1) := by decide +kernel
theorem dL_law_1328 : decode code 1328 = .ok (.iaload, 1) := by decide +kernel
theorem dL_law_1329 : decode code 1329 = .ok (.invokevirtual 189, 3) := by decide +kernel
theorem dL_law_1332 : decode code 1332 = .ok (.pop, 1) := by decide +kernel
theorem dL_law_1333 : decode code 1333 = .ok (.aload_n 2, 1) := by decide +kernel
theorem dL_law_1334 : decode code 1334 = .ok (.aload_n 0, 1) := by decide +kernel
theorem dL_law_1335 : decode code 1335 = .ok (.iload_n 3, 1) := by decide +kernel
theorem dL_law_1336 : decode code 1336 = .ok (.iconst 1, 1) := by decide +kernel
theorem dL_law_1337 : decode code 1337 = .ok (.iadd, 1) := by decide +kernel
theorem dL_law_1338 : decode code 1338 = .ok (.iaload, 1) := by decide +kernel
theorem dL_law_1339 : decode code 1339 = .ok (.invokevirtual 192, 3) := by decide +kernel
theorem dL_law_1342 : decode code 1342 = .ok (.pop, 1) := by decide +kernel
theorem dL_law_1343 : decode code 1343 = .ok (.goto 663, 3) := by decide +kernel
theorem dL_law_1346 : decode code 1346 = .ok (.aload_n 1, 1) := by decide +kernel
theorem dL_law_1347 : decode code 1347 = .ok (.aload_n 0, 1) := by decide +kernel
theorem dL_law_1348 : decode code 1348 = .ok (.iload_n 3, 1) := by decide +kernel
theorem dL_law_1349 : decode code 1349 = .ok (.iconst 1, 1) := by decide +kernel
theorem dL_law_1350 : decode code 1350 = .ok (.iadd, 1) := by decide +kernel
theorem dL_law_1351 : decode code 1351 = .ok (.iaload, 1) := by decide +kernel
theorem dL_law_1352 : decode code 1352 = .ok (.aload_n 0, 1) := by decide +kernel
theorem dL_law_1353 : decode code 1353 = .ok (.iload_n 3, 1) := by decide +kernel
theorem dL_law_1354 : decode code 1354 = .ok (.iconst 2, 1) := by decide +kernel
theorem dL_law_1355 : decode code 1355 = .ok (.iadd, 1) := by decide +kernel
theorem dL_law_1356 : decode code 1356 = .ok (.iaload, 1) := by decide +kernel
theorem dL_law_1357 : decode code 1357 = .ok (.invokevirtual 193, 3) := by decide +kernel
theorem dL_law_1360 : decode code 1360 = .ok (.pop, 1) := by decide +kernel
theorem dL_law_1361 : decode code 1361 = .ok (.aload_n 2, 1) := by decide +kernel
theorem dL_law_1362 : decode code 1362 = .ok (.aload_n 0, 1) := by decide +kernel
theorem dL_law_1363 : decode code 1363 = .ok (.iload_n 3, 1) := by decide +kernel
theorem dL_law_1364 : decode code 1364 = .ok (.iconst 1, 1) := by decide +kernel
theorem dL_law_1365 : decode code 1365 = .ok (.iadd, 1) := by decide +kernel
theorem dL_law_1366 : decode code 1366 = .ok (.iaload, 1) := by decide +kernel
theorem dL_law_1367 : decode code 1367 = .ok (.aload_n 0, 1) := by decide +kernel
theorem dL_law_1368 : decode code 1368 = .ok (.iload_n 3, 1) := by decide +kernel
theorem dL_law_1369 : decode code 1369 = .ok (.iconst 2, 1) := by decide +kernel
theorem dL_law_1370 : decode code 1370 = .ok (.iadd, 1) := by decide +kernel
theorem dL_law_1371 : decode code 1371 = .ok (.iaload, 1) := by decide +kernel
theorem dL_law_1372 : decode code 1372 = .ok (.invokevirtual 196, 3) := by decide +kernel
theorem dL_law_1375 : decode code 1375 = .ok (.pop, 1) := by decide +kernel
theorem dL_law_1376 : decode code 1376 = .ok (.goto 630, 3) := by decide +kernel
theorem dL_law_1379 : decode code 1379 = .ok (.aload_n 1, 1) := by decide +kernel
theorem dL_law_1380 : decode code 1380 = .ok (.invokevirtual 197, 3) := by decide +kernel
theorem dL_law_1383 : decode code 1383 = .ok (.pop, 1) := by decide +kernel
theorem dL_law_1384 : decode code 1384 = .ok (.aload_n 2, 1) := by decide +kernel
theorem dL_law_1385 : decode code 1385 = .ok (.invokevirtual 200, 3) := by decide +kernel
theorem dL_law_1388 : decode code 1388 = .ok (.pop, 1) := by decide +kernel
theorem dL_law_1389 : decode code 1389 = .ok (.goto 617, 3) := by decide +kernel
theorem dL_law_1392 : decode code 1392 = .ok (.aload_n 1, 1) := by decide +kernel
theorem dL_law_1393 : decode code 1393 = .ok (.aload_n 0, 1) := by decide +kernel
theorem dL_law_1394 : decode code 1394 = .ok (.iload_n 3, 1) := by decide +kernel
theorem dL_law_1395 : decode code 1395 = .ok (.iconst 1, 1) := by decide +kernel
theorem dL_law_1396 : decode code 1396 = .ok (.iadd, 1) := by decide +kernel
theorem dL_law_1397 : decode code 1397 = .ok (.iaload, 1) := by decide +kernel
theorem dL_law_1398 : decode code 1398 = .ok (.invokevirtual 201, 3) := by decide +kernel
theorem dL_law_1401 : decode code 1401 = .ok (.pop, 1) := by decide +kernel
theorem dL_law_1402 : decode code 1402 = .ok (.aload_n 2, 1) := by decide +kernel
theorem dL_law_1403 : decode code 1403 = .ok (.aload_n 0, 1) := by decide +kernel
theorem dL_law_1404 : decode code 1404 = .ok (.iload_n 3, 1) := by decide +kernel
theorem dL_law_1405 : decode code 1405 = .ok (.iconst 1, 1) := by decide +kernel
theorem dL_law_1406 : decode code 1406 = .ok (.iadd, 1) := by decide +kernel
theorem dL_law_1407 : decode code 1407 = .ok (.iaload, 1) := by decide +kernel
theorem dL_law_1408 : decode code 1408 = .ok (.invokevirtual 204, 3) := by decide +kernel
theorem dL_law_1411 : decode code 1411 = .ok (.pop, 1) := by decide +kernel
theorem dL_law_1412 : decode code 1412 = .ok (.goto 594, 3) := by decide +kernel
theorem dL_law_1415 : decode code 1415 = .ok (.aload_n 1, 1) := by decide +kernel
theorem dL_law_1416 : decode code 1416 = .ok (.aload_n 0, 1) := by decide +kernel
theorem dL_law_1417 : decode code 1417 = .ok (.iload_n 3, 1) := by decide +kernel
theorem dL_law_1418 : decode code 1418 = .ok (.iconst 1, 1) := by decide +kernel
theorem dL_law_1419 : decode code 1419 = .ok (.iadd, 1) := by decide +kernel
theorem dL_law_1420 : decode code 1420 = .ok (.iaload, 1) := by decide +kernel
theorem dL_law_1421 : decode code 1421 = .ok (.aload_n 0, 1) := by decide +kernel
theorem dL_law_1422 : decode code 1422 = .ok (.iload_n 3, 1) := by decide +kernel
theorem dL_law_1423 : decode code 1423 = .ok (.iconst 2, 1) := by decide +kernel
theorem dL_law_1424 : decode code 1424 = .ok (.iadd, 1) := by decide +kernel
theorem dL_law_1425 : decode code 1425 = .ok (.iaload, 1) := by decide +kernel
theorem dL_law_1426 : decode code 1426 = .ok (.invokevirtual 205, 3) := by decide +kernel
theorem dL_law_1429 : decode code 1429 = .ok (.pop, 1) := by decide +kernel
theorem dL_law_1430 : decode code 1430 = .ok (.aload_n 2, 1) := by decide +kernel
theorem dL_law_1431 : decode code 1431 = .ok (.aload_n 0, 1) := by decide +kernel
theorem dL_law_1432 : decode code 1432 = .ok (.iload_n 3, 1) := by decide +kernel
theorem dL_law_1433 : decode code 1433 = .ok (.iconst 1, 1) := by decide +kernel
theorem dL_law_1434 : decode code 1434 = .ok (.iadd, 1) := by decide +kernel
theorem dL_law_1435 : decode code 1435 = .ok (.iaload, 1) := by decide +kernel
theorem dL_law_1436 : decode code 1436 = .ok (.aload_n 0, 1) := by decide +kernel
theorem dL_law_1437 : decode code 1437 = .ok (.iload_n 3, 1) := by decide +kernel
theorem dL_law_1438 : decode code 1438 = .ok (.iconst 2, 1) := by decide +kernel
theorem dL_law_1439 : decode code 1439 = .ok (.iadd, 1) := by decide +kernel
theorem dL_law_1440 : decode code 1440 = .ok (.iaload, 1) := by decide +kernel
theorem dL_law_1441 : decode code 1441 = .ok (.invokevirtual 208, 3) := by decide +kernel
theorem dL_law_1444 : decode code 1444 = .ok (.pop, 1) := by decide +kernel
theorem dL_law_1445 : decode code 1445 = .ok (.goto 561, 3) := by decide +kernel
theorem dL_law_1448 : decode code 1448 = .ok (.aload_n 1, 1) := by decide +kernel
theorem dL_law_1449 : decode code 1449 = .ok (.aload_n 0, 1) := by decide +kernel
theorem dL_law_1450 : decode code 1450 = .ok (.iload_n 3, 1) := by decide +kernel
theorem dL_law_1451 : decode code 1451 = .ok (.iconst 1, 1) := by decide +kernel
theorem dL_law_1452 : decode code 1452 = .ok (.iadd, 1) := by decide +kernel
theorem dL_law_1453 : decode code 1453 = .ok (.iaload, 1) := by decide +kernel
theorem dL_law_1454 : decode code 1454 = .ok (.invokevirtual 209, 3) := by decide +kernel
theorem dL_law_1457 : decode code 1457 = .ok (.pop, 1) := by decide +kernel
theorem dL_law_1458 : decode code 1458 = .ok (.aload_n 2, 1) := by decide +kernel
theorem dL_law_1459 : decode code 1459 = .ok (.aload_n 0, 1) := by decide +kernel
theorem dL_law_1460 : decode code 1460 = .ok (.iload_n 3, 1) := by decide +kernel
theorem dL_law_1461 : decode code 1461 = .ok (.iconst 1, 1) := by decide +kernel
theorem dL_law_1462 : decode code 1462 = .ok (.iadd, 1) := by decide +kernel
theorem dL_law_1463 : decode code 1463 = .ok (.iaload, 1) := by decide +kernel
theorem dL_law_1464 : decode code 1464 = .ok (.invokevirtual 212, 3) := by decide +kernel
theorem dL_law_1467 : decode code 1467 = .ok (.pop, 1) := by decide +kernel
theorem dL_law_1468 : decode code 1468 = .ok (.goto 538, 3) := by decide +kernel
theorem dL_law_1471 : decode code 1471 = .ok (.aload_n 1, 1) := by decide +kernel
theorem dL_law_1472 : decode code 1472 = .ok (.aload_n 0, 1) := by decide +kernel
theorem dL_law_1473 : decode code 1473 = .ok (.iload_n 3, 1) := by decide +kernel
theorem dL_law_1474 : decode code 1474 = .ok (.iconst 1, 1) := by decide +kernel
theorem dL_law_1475 : decode code 1475 = .ok (.iadd, 1) := by decide +kernel
theorem dL_law_1476 : decode code 1476 = .ok (.iaload, 1) := by decide +kernel
theorem dL_law_1477 : decode code 1477 = .ok (.aload_n 0, 1) := by decide +kernel
theorem dL_law_1478 : decode code 1478 = .ok (.iload_n 3, 1) := by decide +kernel
theorem dL_law_1479 : decode code 1479 = .ok (.iconst 2, 1) := by decide +kernel
theorem dL_law_1480 : decode code 1480 = .ok (.iadd, 1) := by decide +kernel
theorem dL_law_1481 : decode code 1481 = .ok (.iaload, 1) := by decide +kernel
theorem dL_law_1482 : decode code 1482 = .ok (.invokevirtual 213, 3) := by decide +kernel
theorem dL_law_1485 : decode code 1485 = .ok (.pop, 1) := by decide +kernel
theorem dL_law_1486 : decode code 1486 = .ok (.aload_n 2, 1) := by decide +kernel
theorem dL_law_1487 : decode code 1487 = .ok (.aload_n 0, 1) := by decide +kernel
theorem dL_law_1488 : decode code 1488 = .ok (.iload_n 3, 1) := by decide +kernel
theorem dL_law_1489 : decode code 1489 = .ok (.iconst 1, 1) := by decide +kernel
theorem dL_law_1490 : decode code 1490 = .ok (.iadd, 1) := by decide +kernel
theorem dL_law_1491 : decode code 1491 = .ok (.iaload, 1) := by decide +kernel
theorem dL_law_1492 : decode code 1492 = .ok (.aload_n 0, 1) := by decide +kernel
theorem dL_law_1493 : decode code 1493 = .ok (.iload_n 3, 1) := by decide +kernel
theorem dL_law_1494 : decode code 1494 = .ok (.iconst 2, 1) := by decide +kernel
theorem dL_law_1495 : decode code 1495 = .ok (.iadd, 1) := by decide +kernel
theorem dL_law_1496 : decode code 1496 = .ok (.iaload, 1) := by decide +kernel
theorem dL_law_1497 : decode code 1497 = .ok (.invokevirtual 216, 3) := by decide +kernel
theorem dL_law_1500 : decode code 1500 = .ok (.pop, 1) := by decide +kernel
theorem dL_law_1501 : decode code 1501 = .ok (.goto 505, 3) := by decide +kernel
theorem dL_law_1504 : decode code 1504 = .ok (.aload_n 1, 1) := by decide +kernel
theorem dL_law_1505 : decode code 1505 = .ok (.aload_n 0, 1) := by decide +kernel
theorem dL_law_1506 : decode code 1506 = .ok (.iload_n 3, 1) := by decide +kernel
theorem dL_law_1507 : decode code 1507 = .ok (.iconst 1, 1) := by decide +kernel
theorem dL_law_1508 : decode code 1508 = .ok (.iadd, 1) := by decide +kernel
theorem dL_law_1509 : decode code 1509 = .ok (.iaload, 1) := by decide +kernel
theorem dL_law_1510 : decode code 1510 = .ok (.invokevirtual 217, 3) := by decide +kernel
theorem dL_law_1513 : decode code 1513 = .ok (.pop, 1) := by decide +kernel
theorem dL_law_1514 : decode code 1514 = .ok (.aload_n 2, 1) := by decide +kernel
theorem dL_law_1515 : decode code 1515 = .ok (.aload_n 0, 1) := by decide +kernel
theorem dL_law_1516 : decode code 1516 = .ok (.iload_n 3, 1) := by decide +kernel
theorem dL_law_1517 : decode code 1517 = .ok (.iconst 1, 1) := by decide +kernel
theorem dL_law_1518 : decode code 1518 = .ok (.iadd, 1) := by decide +kernel
theorem dL_law_1519 : decode code 1519 = .ok (.iaload, 1) := by decide +kernel
theorem dL_law_1520 : decode code 1520 = .ok (.invokevirtual 220, 3) := by decide +kernel
theorem dL_law_1523 : decode code 1523 = .ok (.pop, 1) := by decide +kernel
theorem dL_law_1524 : decode code 1524 = .ok (.goto 482, 3) := by decide +kernel
theorem dL_law_1527 : decode code 1527 = .ok (.aload_n 1, 1) := by decide +kernel
theorem dL_law_1528 : decode code 1528 = .ok (.aload_n 0, 1) := by decide +kernel
theorem dL_law_1529 : decode code 1529 = .ok (.iload_n 3, 1) := by decide +kernel
theorem dL_law_1530 : decode code 1530 = .ok (.iconst 1, 1) := by decide +kernel
theorem dL_law_1531 : decode code 1531 = .ok (.iadd, 1) := by decide +kernel
theorem dL_law_1532 : decode code 1532 = .ok (.iaload, 1) := by decide +kernel
theorem dL_law_1533 : decode code 1533 = .ok (.invokevirtual 221, 3) := by decide +kernel
theorem dL_law_1536 : decode code 1536 = .ok (.pop, 1) := by decide +kernel
theorem dL_law_1537 : decode code 1537 = .ok (.aload_n 2, 1) := by decide +kernel
theorem dL_law_1538 : decode code 1538 = .ok (.aload_n 0, 1) := by decide +kernel
theorem dL_law_1539 : decode code 1539 = .ok (.iload_n 3, 1) := by decide +kernel
theorem dL_law_1540 : decode code 1540 = .ok (.iconst 1, 1) := by decide +kernel
theorem dL_law_1541 : decode code 1541 = .ok (.iadd, 1) := by decide +kernel
theorem dL_law_1542 : decode code 1542 = .ok (.iaload, 1) := by decide +kernel
theorem dL_law_1543 : decode code 1543 = .ok (.invokevirtual 224, 3) := by decide +kernel
theorem dL_law_1546 : decode code 1546 = .ok (.pop, 1) := by decide +kernel
theorem dL_law_1547 : decode code 1547 = .ok (.goto 459, 3) := by decide +kernel
theorem dL_law_1550 : decode code 1550 = .ok (.aload_n 1, 1) := by decide +kernel
theorem dL_law_1551 : decode code 1551 = .ok (.aload_n 0, 1) := by decide +kernel
theorem dL_law_1552 : decode code 1552 = .ok (.iload_n 3, 1) := by decide +kernel
theorem dL_law_1553 : decode code 1553 = .ok (.iconst 1, 1) := by decide +kernel
theorem dL_law_1554 : decode code 1554 = .ok (.iadd, 1) := by decide +kernel
theorem dL_law_1555 : decode code 1555 = .ok (.iaload, 1) := by decide +kernel
theorem dL_law_1556 : decode code 1556 = .ok (.aload_n 0, 1) := by decide +kernel
theorem dL_law_1557 : decode code 1557 = .ok (.iload_n 3, 1) := by decide +kernel
theorem dL_law_1558 : decode code 1558 = .ok (.iconst 2, 1) := by decide +kernel
theorem dL_law_1559 : decode code 1559 = .ok (.iadd, 1) := by decide +kernel
theorem dL_law_1560 : decode code 1560 = .ok (.iaload, 1) := by decide +kernel
theorem dL_law_1561 : decode code 1561 = .ok (.invokevirtual 225, 3) := by decide +kernel
theorem dL_law_1564 : decode code 1564 = .ok (.pop, 1) := by decide +kernel
theorem dL_law_1565 : decode code 1565 = .ok (.aload_n 2, 1) := by decide +kernel
theorem dL_law_1566 : decode code 1566 = .ok (.aload_n 0, 1) := by decide +kernel
theorem dL_law_1567 : decode code 1567 = .ok (.iload_n 3, 1) := by decide +kernel
theorem dL_law_1568 : decode code 1568 = .ok (.iconst 1, 1) := by decide +kernel
theorem dL_law_1569 : decode code 1569 = .ok (.iadd, 1) := by decide +kernel
theorem dL_law_1570 : decode code 1570 = .ok (.iaload, 1) := by decide +kernel
theorem dL_law_1571 : decode code 1571 = .ok (.aload_n 0, 1) := by decide +kernel
theorem dL_law_1572 : decode code 1572 = .ok (.iload_n 3, 1) := by decide +kernel
theorem dL_law_1573 : decode code 1573 = .ok (.iconst 2, 1) := by decide +kernel
theorem dL_law_1574 : decode code 1574 = .ok (.iadd, 1) := by decide +kernel
theorem dL_law_1575 : decode code 1575 = .ok (.iaload, 1) := by decide +kernel
theorem dL_law_1576 : decode code 1576 = .ok (.invokevirtual 228, 3) := by decide +kernel
theorem dL_law_1579 : decode code 1579 = .ok (.pop, 1) := by decide +kernel
theorem dL_law_1580 : decode code 1580 = .ok (.goto 426, 3) := by decide +kernel
theorem dL_law_1583 : decode code 1583 = .ok (.aload_n 1, 1) := by decide +kernel
theorem dL_law_1584 : decode code 1584 = .ok (.aload_n 0, 1) := by decide +kernel
theorem dL_law_1585 : decode code 1585 = .ok (.iload_n 3, 1) := by decide +kernel
theorem dL_law_1586 : decode code 1586 = .ok (.iconst 1, 1) := by decide +kernel
theorem dL_law_1587 : decode code 1587 = .ok (.iadd, 1) := by decide +kernel
theorem dL_law_1588 : decode code 1588 = .ok (.iaload, 1) := by decide +kernel
theorem dL_law_1589 : decode code 1589 = .ok (.aload_n 0, 1) := by decide +kernel
theorem dL_law_1590 : decode code 1590 = .ok (.iload_n 3, 1) := by decide +kernel
theorem dL_law_1591 : decode code 1591 = .ok (.iconst 2, 1) := by decide +kernel
theorem dL_law_1592 : decode code 1592 = .ok (.iadd, 1) := by decide +kernel
theorem dL_law_1593 : decode code 1593 = .ok (.iaload, 1) := by decide +kernel
theorem dL_law_1594 : decode code 1594 = .ok (.invokevirtual 229, 3) := by decide +kernel
theorem dL_law_1597 : decode code 1597 = .ok (.pop, 1) := by decide +kernel
theorem dL_law_1598 : decode code 1598 = .ok (.aload_n 2, 1) := by decide +kernel
theorem dL_law_1599 : decode code 1599 = .ok (.aload_n 0, 1) := by decide +kernel
theorem dL_law_1600 : decode code 1600 = .ok (.iload_n 3, 1) := by decide +kernel
theorem dL_law_1601 : decode code 1601 = .ok (.iconst 1, 1) := by decide +kernel
theorem dL_law_1602 : decode code 1602 = .ok (.iadd, 1) := by decide +kernel
theorem dL_law_1603 : decode code 1603 = .ok (.iaload, 1) := by decide +kernel
theorem dL_law_1604 : decode code 1604 = .ok (.aload_n 0, 1) := by decide +kernel
theorem dL_law_1605 : decode code 1605 = .ok (.iload_n 3, 1) := by decide +kernel
theorem dL_law_1606 : decode code 1606 = .ok (.iconst 2, 1) := by decide +kernel
theorem dL_law_1607 : decode code 1607 = .ok (.iadd, 1) := by decide +kernel
theorem dL_law_1608 : decode code 1608 = .ok (.iaload, 1) := by decide +kernel
theorem dL_law_1609 : decode code 1609 = .ok (.invokevirtual 232, 3) := by decide +kernel
theorem dL_law_1612 : decode code 1612 = .ok (.pop, 1) := by decide +kernel
theorem dL_law_1613 : decode code 1613 = .ok (.goto 393, 3) := by decide +kernel
theorem dL_law_1616 : decode code 1616 = .ok (.aload_n 1, 1) := by decide +kernel
theorem dL_law_1617 : decode code 1617 = .ok (.aload_n 0, 1) := by decide +kernel
theorem dL_law_1618 : decode code 1618 = .ok (.iload_n 3, 1) := by decide +kernel
theorem dL_law_1619 : decode code 1619 = .ok (.iconst 1, 1) := by decide +kernel
theorem dL_law_1620 : decode code 1620 = .ok (.iadd, 1) := by decide +kernel
theorem dL_law_1621 : decode code 1621 = .ok (.iaload, 1) := by decide +kernel
theorem dL_law_1622 : decode code 1622 = .ok (.aload_n 0, 1) := by decide +kernel
theorem dL_law_1623 : decode code 1623 = .ok (.iload_n 3, 1) := by decide +kernel
theorem dL_law_1624 : decode code 1624 = .ok (.iconst 2, 1) := by decide +kernel
theorem dL_law_1625 : decode code 1625 = .ok (.iadd, 1) := by decide +kernel
theorem dL_law_1626 : decode code 1626 = .ok (.iaload, 1) := by decide +kernel
theorem dL_law_1627 : decode code 1627 = .ok (.invokevirtual 233, 3) := by decide +kernel
theorem dL_law_1630 : decode code 1630 = .ok (.pop, 1) := by decide +kernel
theorem dL_law_1631 : decode code 1631 = .ok (.aload_n 2, 1) := by decide +kernel
theorem dL_law_1632 : decode code 1632 = .ok (.aload_n 0, 1) := by decide +kernel
theorem dL_law_1633 : decode code 1633 = .ok (.iload_n 3, 1) := by decide +kernel
theorem dL_law_1634 : decode code 1634 = .ok (.iconst 1, 1) := by decide +kernel
theorem dL_law_1635 : decode code 1635 = .ok (.iadd, 1) := by decide +kernel
theorem dL_law_1636 : decode code 1636 = .ok (.iaload, 1) := by decide +kernel
theorem dL_law_1637 : decode code 1637 = .ok (.aload_n 0, 1) := by decide +kernel
theorem dL_law_1638 : decode code 1638 = .ok (.iload_n 3, 1) := by decide +kernel
theorem dL_law_1639 : decode code 1639 = .ok (.iconst 2, 1) := by decide +kernel
theorem dL_law_1640 : decode code 1640 = .ok (.iadd, 1) := by decide +kernel
theorem dL_law_1641 : decode code 1641 = .ok (.iaload, 1) := by decide +kernel
theorem dL_law_1642 : decode code 1642 = .ok (.invokevirtual 236, 3) := by decide +kernel
theorem dL_law_1645 : decode code 1645 = .ok (.pop, 1) := by decide +kernel
theorem dL_law_1646 : decode code 1646 = .ok (.goto 360, 3) := by decide +kernel
theorem dL_law_1649 : decode code 1649 = .ok (.aload_n 1, 1) := by decide +kernel
theorem dL_law_1650 : decode code 1650 = .ok (.aload_n 0, 1) := by decide +kernel
theorem dL_law_1651 : decode code 1651 = .ok (.iload_n 3, 1) := by decide +kernel
theorem dL_law_1652 : decode code 1652 = .ok (.iconst 1, 1) := by decide +kernel
theorem dL_law_1653 : decode code 1653 = .ok (.iadd, 1) := by decide +kernel
theorem dL_law_1654 : decode code 1654 = .ok (.iaload, 1) := by decide +kernel
theorem dL_law_1655 : decode code 1655 = .ok (.aload_n 0, 1) := by decide +kernel
theorem dL_law_1656 : decode code 1656 = .ok (.iload_n 3, 1) := by decide +kernel
theorem dL_law_1657 : decode code 1657 = .ok (.iconst 2, 1) := by decide +kernel
theorem dL_law_1658 : decode code 1658 = .ok (.iadd, 1) := by decide +kernel
theorem dL_law_1659 : decode code 1659 = .ok (.iaload, 1) := by decide +kernel
theorem dL_law_1660 : decode code 1660 = .ok (.invokevirtual 237, 3) := by decide +kernel
theorem dL_law_1663 : decode code 1663 = .ok (.pop, 1) := by decide +kernel
theorem dL_law_1664 : decode code 1664 = .ok (.aload_n 2, 1) := by decide +kernel
theorem dL_law_1665 : decode code 1665 = .ok (.aload_n 0, 1) := by decide +kernel
theorem dL_law_1666 : decode code 1666 = .ok (.iload_n 3, 1) := by decide +kernel
theorem dL_law_1667 : decode code 1667 = .ok (.iconst 1, 1) := by decide +kernel
theorem dL_law_1668 : decode code 1668 = .ok (.iadd, 1) := by decide +kernel
theorem dL_law_1669 : decode code 1669 = .ok (.iaload, 1) := by decide +kernel
theorem dL_law_1670 : decode code 1670 = .ok (.aload_n 0, 1) := by decide +kernel
theorem dL_law_1671 : decode code 1671 = .ok (.iload_n 3, 1) := by decide +kernel
theorem dL_law_1672 : decode code 1672 = .ok (.iconst 2, 1) := by decide +kernel
theorem dL_law_1673 : decode code 1673 = .ok (.iadd, 1) := by decide +kernel
theorem dL_law_1674 : decode code 1674 = .ok (.iaload, 1) := by decide +kernel
theorem dL_law_1675 : decode code 1675 = .ok (.invokevirtual 240, 3) := by decide +kernel
theorem dL_law_1678 : decode code 1678 = .ok (.pop, 1) := by decide +kernel
theorem dL_law_1679 : decode code 1679 = .ok (.goto 327, 3) := by decide +kernel
theorem dL_law_1682 : decode code 1682 = .ok (.aload_n 1, 1) := by decide +kernel
theorem dL_law_1683 : decode code 1683 = .ok (.aload_n 0, 1) := by decide +kernel
theorem dL_law_1684 : decode code 1684 = .ok (.iload_n 3, 1) := by decide +kernel
theorem dL_law_1685 : decode code 1685 = .ok (.iconst 1, 1) := by decide +kernel
theorem dL_law_1686 : decode code 1686 = .ok (.iadd, 1) := by decide +kernel
theorem dL_law_1687 : decode code 1687 = .ok (.iaload, 1) := by decide +kernel
theorem dL_law_1688 : decode code 1688 = .ok (.aload_n 0, 1) := by decide +kernel
theorem dL_law_1689 : decode code 1689 = .ok (.iload_n 3, 1) := by decide +kernel
theorem dL_law_1690 : decode code 1690 = .ok (.iconst 2, 1) := by decide +kernel
theorem dL_law_1691 : decode code 1691 = .ok (.iadd, 1) := by decide +kernel
theorem dL_law_1692 : decode code 1692 = .ok (.iaload, 1) := by decide +kernel
theorem dL_law_1693 : decode code 1693 = .ok (.invokevirtual 241, 3) := by decide +kernel
theorem dL_law_1696 : decode code 1696 = .ok (.pop, 1) := by decide +kernel
theorem dL_law_1697 : decode code 1697 = .ok (.aload_n 2, 1) := by decide +kernel
theorem dL_law_1698 : decode code 1698 = .ok (.aload_n 0, 1) := by decide +kernel
theorem dL_law_1699 : decode code 1699 = .ok (.iload_n 3, 1) := by decide +kernel
theorem dL_law_1700 : decode code 1700 = .ok (.iconst 1, 1) := by decide +kernel
theorem dL_law_1701 : decode code 1701 = .ok (.iadd, 1) := by decide +kernel
theorem dL_law_1702 : decode code 1702 = .ok (.iaload, 1) := by decide +kernel
theorem dL_law_1703 : decode code 1703 = .ok (.aload_n 0, 1) := by decide +kernel
theorem dL_law_1704 : decode code 1704 = .ok (.iload_n 3, 1) := by decide +kernel
theorem dL_law_1705 : decode code 1705 = .ok (.iconst 2, 1) := by decide +kernel
theorem dL_law_1706 : decode code 1706 = .ok (.iadd, 1) := by decide +kernel
theorem dL_law_1707 : decode code 1707 = .ok (.iaload, 1) := by decide +kernel
theorem dL_law_1708 : decode code 1708 = .ok (.invokevirtual 244, 3) := by decide +kernel
theorem dL_law_1711 : decode code 1711 = .ok (.pop, 1) := by decide +kernel
theorem dL_law_1712 : decode code 1712 = .ok (.goto 294, 3) := by decide +kernel
theorem dL_law_1715 : decode code 1715 = .ok (.aload_n 1, 1) := by decide +kernel
theorem dL_law_1716 : decode code 1716 = .ok (.aload_n 0, 1) := by decide +kernel
theorem dL_law_1717 : decode code 1717 = .ok (.iload_n 3, 1) := by decide +kernel
theorem dL_law_1718 : decode code 1718 = .ok (.iconst 1, 1) := by decide +kernel
theorem dL_law_1719 : decode code 1719 = .ok (.iadd, 1) := by decide +kernel
theorem dL_law_1720 : decode code 1720 = .ok (.iaload, 1) := by decide +kernel
theorem dL_law_1721 : decode code 1721 = .ok (.aload_n 0, 1) := by decide +kernel
theorem dL_law_1722 : decode code 1722 = .ok (.iload_n 3, 1) := by decide +kernel
theorem dL_law_1723 : decode code 1723 = .ok (.iconst 2, 1) := by decide +kernel
theorem dL_law_1724 : decode code 1724 = .ok (.iadd, 1) := by decide +kernel
theorem dL_law_1725 : decode code 1725 = .ok (.iaload, 1) := by decide +kernel
theorem dL_law_1726 : decode code 1726 = .ok (.aload_n 0, 1) := by decide +kernel
theorem dL_law_1727 : decode code 1727 = .ok (.iload_n 3, 1) := by decide +kernel
theorem dL_law_1728 : decode code 1728 = .ok (.iconst 3, 1) := by decide +kernel
theorem dL_law_1729 : decode code 1729 = .ok (.iadd, 1) := by decide +kernel
theorem dL_law_1730 : decode code 1730 = .ok (.iaload, 1) := by decide +kernel
theorem dL_law_1731 : decode code 1731 = .ok (.invokevirtual 245, 3) := by decide +kernel
theorem dL_law_1734 : decode code 1734 = .ok (.pop, 1) := by decide +kernel
theorem dL_law_1735 : decode code 1735 = .ok (.aload_n 2, 1) := by decide +kernel
theorem dL_law_1736 : decode code 1736 = .ok (.aload_n 0, 1) := by decide +kernel
theorem dL_law_1737 : decode code 1737 = .ok (.iload_n 3, 1) := by decide +kernel
theorem dL_law_1738 : decode code 1738 = .ok (.iconst 1, 1) := by decide +kernel
theorem dL_law_1739 : decode code 1739 = .ok (.iadd, 1) := by decide +kernel
theorem dL_law_1740 : decode code 1740 = .ok (.iaload, 1) := by decide +kernel
theorem dL_law_1741 : decode code 1741 = .ok (.aload_n 0, 1) := by decide +kernel
theorem dL_law_1742 : decode code 1742 = .ok (.iload_n 3, 1) := by decide +kernel
theorem dL_law_1743 : decode code 1743 = .ok (.iconst 2, 1) := by decide +kernel
theorem dL_law_1744 : decode code 1744 = .ok (.iadd, 1) := by decide +kernel
theorem dL_law_1745 : decode code 1745 = .ok (.iaload, 1) := by decide +kernel
theorem dL_law_1746 : decode code 1746 = .ok (.aload_n 0, 1) := by decide +kernel
theorem dL_law_1747 : decode code 1747 = .ok (.iload_n 3, 1) := by decide +kernel
theorem dL_law_1748 : decode code 1748 = .ok (.iconst 3, 1) := by decide +kernel
theorem dL_law_1749 : decode code 1749 = .ok (.iadd, 1) := by decide +kernel
theorem dL_law_1750 : decode code 1750 = .ok (.iaload, 1) := by decide +kernel
theorem dL_law_1751 : decode code 1751 = .ok (.invokevirtual 249, 3) := by decide +kernel
theorem dL_law_1754 : decode code 1754 = .ok (.pop, 1) := by decide +kernel
theorem dL_law_1755 : decode code 1755 = .ok (.goto 251, 3) := by decide +kernel
theorem dL_law_1758 : decode code 1758 = .ok (.aload_n 1, 1) := by decide +kernel
theorem dL_law_1759 : decode code 1759 = .ok (.aload_n 0, 1) := by decide +kernel
theorem dL_law_1760 : decode code 1760 = .ok (.iload_n 3, 1) := by decide +kernel
theorem dL_law_1761 : decode code 1761 = .ok (.iconst 1, 1) := by decide +kernel
theorem dL_law_1762 : decode code 1762 = .ok (.iadd, 1) := by decide +kernel
theorem dL_law_1763 : decode code 1763 = .ok (.iaload, 1) := by decide +kernel
theorem dL_law_1764 : decode code 1764 = .ok (.invokevirtual 250, 3) := by decide +kernel
theorem dL_law_1767 : decode code 1767 = .ok (.pop, 1) := by decide +kernel
theorem dL_law_1768 : decode code 1768 = .ok (.aload_n 2, 1) := by decide +kernel
theorem dL_law_1769 : decode code 1769 = .ok (.aload_n 0, 1) := by decide +kernel
theorem dL_law_1770 : decode code 1770 = .ok (.iload_n 3, 1) := by decide +kernel
theorem dL_law_1771 : decode code 1771 = .ok (.iconst 1, 1) := by decide +kernel
theorem dL_law_1772 : decode code 1772 = .ok (.iadd, 1) := by decide +kernel
theorem dL_law_1773 : decode code 1773 = .ok (.iaload, 1) := by decide +kernel
theorem dL_law_1774 : decode code 1774 = .ok (.invokevirtual 253, 3) := by decide +kernel
theorem dL_law_1777 : decode code 1777 = .ok (.pop, 1) := by decide +kernel
theorem dL_law_1778 : decode code 1778 = .ok (.goto 228, 3) := by decide +kernel
theorem dL_law_1781 : decode code 1781 = .ok (.aload_n 1, 1) := by decide +kernel
theorem dL_law_1782 : decode code 1782 = .ok (.aload_n 0, 1) := by decide +kernel
theorem dL_law_1783 : decode code 1783 = .ok (.iload_n 3, 1) := by decide +kernel
theorem dL_law_1784 : decode code 1784 = .ok (.iconst 1, 1) := by decide +kernel
theorem dL_law_1785 : decode code 1785 = .ok (.iadd, 1) := by decide +kernel
theorem dL_law_1786 : decode code 1786 = .ok (.iaload, 1) := by decide +kernel
theorem dL_law_1787 : decode code 1787 = .ok (.invokevirtual 254, 3) := by decide +kernel
theorem dL_law_1790 : decode code 1790 = .ok (.pop, 1) := by decide +kernel
theorem dL_law_1791 : decode code 1791 = .ok (.aload_n 2, 1) := by decide +kernel
theorem dL_law_1792 : decode code 1792 = .ok (.aload_n 0, 1) := by decide +kernel
theorem dL_law_1793 : decode code 1793 = .ok (.iload_n 3, 1) := by decide +kernel
theorem dL_law_1794 : decode code 1794 = .ok (.iconst 1, 1) := by decide +kernel
theorem dL_law_1795 : decode code 1795 = .ok (.iadd, 1) := by decide +kernel
theorem dL_law_1796 : decode code 1796 = .ok (.iaload, 1) := by decide +kernel
theorem dL_law_1797 : decode code 1797 = .ok (.invokevirtual 257, 3) := by decide +kernel
theorem dL_law_1800 : decode code 1800 = .ok (.pop, 1) := by decide +kernel
theorem dL_law_1801 : decode code 1801 = .ok (.goto 205, 3) := by decide +kernel
theorem dL_law_1804 : decode code 1804 = .ok (.aload_n 1, 1) := by decide +kernel
theorem dL_law_1805 : decode code 1805 = .ok (.aload_n 0, 1) := by decide +kernel
theorem dL_law_1806 : decode code 1806 = .ok (.iload_n 3, 1) := by decide +kernel
theorem dL_law_1807 : decode code 1807 = .ok (.iconst 1, 1) := by decide +kernel
theorem dL_law_1808 : decode code 1808 = .ok (.iadd, 1) := by decide +kernel
theorem dL_law_1809 : decode code 1809 = .ok (.iaload, 1) := by decide +kernel
theorem dL_law_1810 : decode code 1810 = .ok (.invokevirtual 258, 3) := by decide +kernel
theorem dL_law_1813 : decode code 1813 = .ok (.pop, 1) := by decide +kernel
theorem dL_law_1814 : decode code 1814 = .ok (.aload_n 2, 1) := by decide +kernel
theorem dL_law_1815 : decode code 1815 = .ok (.aload_n 0, 1) := by decide +kernel
theorem dL_law_1816 : decode code 1816 = .ok (.iload_n 3, 1) := by decide +kernel
theorem dL_law_1817 : decode code 1817 = .ok (.iconst 1, 1) := by decide +kernel
theorem dL_law_1818 : decode code 1818 = .ok (.iadd, 1) := by decide +kernel
theorem dL_law_1819 : decode code 1819 = .ok (.iaload, 1) := by decide +kernel
theorem dL_law_1820 : decode code 1820 = .ok (.invokevirtual 261, 3) := by decide +kernel
theorem dL_law_1823 : decode code 1823 = .ok (.pop, 1) := by decide +kernel
theorem dL_law_1824 : decode code 1824 = .ok (.goto 182, 3) := by decide +kernel
theorem dL_law_1827 : decode code 1827 = .ok (.aload_n 1, 1) := by decide +kernel
theorem dL_law_1828 : decode code 1828 = .ok (.aload_n 0, 1) := by decide +kernel
theorem dL_law_1829 : decode code 1829 = .ok (.iload_n 3, 1) := by decide +kernel
theorem dL_law_1830 : decode code 1830 = .ok (.iconst 1, 1) := by decide +kernel
theorem dL_law_1831 : decode code 1831 = .ok (.iadd, 1) := by decide +kernel
theorem dL_law_1832 : decode code 1832 = .ok (.iaload, 1) := by decide +kernel
theorem dL_law_1833 : decode code 1833 = .ok (.aload_n 0, 1) := by decide +kernel
theorem dL_law_1834 : decode code 1834 = .ok (.iload_n 3, 1) := by decide +kernel
theorem dL_law_1835 : decode code 1835 = .ok (.iconst 2, 1) := by decide +kernel
theorem dL_law_1836 : decode code 1836 = .ok (.iadd, 1) := by decide +kernel
theorem dL_law_1837 : decode code 1837 = .ok (.iaload, 1) := by decide +kernel
theorem dL_law_1838 : decode code 1838 = .ok (.aload_n 0, 1) := by decide +kernel
theorem dL_law_1839 : decode code 1839 = .ok (.iload_n 3, 1) := by decide +kernel
theorem dL_law_1840 : decode code 1840 = .ok (.iconst 3, 1) := by decide +kernel
theorem dL_law_1841 : decode code 1841 = .ok (.iadd, 1) := by decide +kernel
theorem dL_law_1842 : decode code 1842 = .ok (.iaload, 1) := by decide +kernel
theorem dL_law_1843 : decode code 1843 = .ok (.invokevirtual 262, 3) := by decide +kernel
theorem dL_law_1846 : decode code 1846 = .ok (.pop, 1) := by decide +kernel
theorem dL_law_1847 : decode code 1847 = .ok (.aload_n 2, 1) := by decide +kernel
theorem dL_law_1848 : decode code 1848 = .ok (.aload_n 0, 1) := by decide +kernel
theorem dL_law_1849 : decode code 1849 = .ok (.iload_n 3, 1) := by decide +kernel
theorem dL_law_1850 : decode code 1850 = .ok (.iconst 1, 1) := by decide +kernel
theorem dL_law_1851 : decode code 1851 = .ok (.iadd, 1) := by decide +kernel
theorem dL_law_1852 : decode code 1852 = .ok (.iaload, 1) := by decide +kernel
theorem dL_law_1853 : decode code 1853 = .ok (.aload_n 0, 1) := by decide +kernel
theorem dL_law_1854 : decode code 1854 = .ok (.iload_n 3, 1) := by decide +kernel
theorem dL_law_1855 : decode code 1855 = .ok (.iconst 2, 1) := by decide +kernel
theorem dL_law_1856 : decode code 1856 = .ok (.iadd, 1) := by decide +kernel
theorem dL_law_1857 : decode code 1857 = .ok (.iaload, 1) := by decide +kernel
theorem dL_law_1858 : decode code 1858 = .ok (.aload_n 0, 1) := by decide +kernel
theorem dL_law_1859 : decode code 1859 = .ok (.iload_n 3, 1) := by decide +kernel
theorem dL_law_1860 : decode code 1860 = .ok (.iconst 3, 1) := by decide +kernel
theorem dL_law_1861 : decode code 1861 = .ok (.iadd, 1) := by decide +kernel
theorem dL_law_1862 : decode code 1862 = .ok (.iaload, 1) := by decide +kernel
theorem dL_law_1863 : decode code 1863 = .ok (.invokevirtual 265, 3) := by decide +kernel
theorem dL_law_1866 : decode code 1866 = .ok (.pop, 1) := by decide +kernel
theorem dL_law_1867 : decode code 1867 = .ok (.goto 139, 3) := by decide +kernel
theorem dL_law_1870 : decode code 1870 = .ok (.aload_n 1, 1) := by decide +kernel
theorem dL_law_1871 : decode code 1871 = .ok (.aload_n 0, 1) := by decide +kernel
theorem dL_law_1872 : decode code 1872 = .ok (.iload_n 3, 1) := by decide +kernel
theorem dL_law_1873 : decode code 1873 = .ok (.iconst 1, 1) := by decide +kernel
theorem dL_law_1874 : decode code 1874 = .ok (.iadd, 1) := by decide +kernel
theorem dL_law_1875 : decode code 1875 = .ok (.iaload, 1) := by decide +kernel
theorem dL_law_1876 : decode code 1876 = .ok (.aload_n 0, 1) := by decide +kernel
theorem dL_law_1877 : decode code 1877 = .ok (.iload_n 3, 1) := by decide +kernel
theorem dL_law_1878 : decode code 1878 = .ok (.iconst 2, 1) := by decide +kernel
theorem dL_law_1879 : decode code 1879 = .ok (.iadd, 1) := by decide +kernel
theorem dL_law_1880 : decode code 1880 = .ok (.iaload, 1) := by decide +kernel
theorem dL_law_1881 : decode code 1881 = .ok (.aload_n 0, 1) := by decide +kernel
theorem dL_law_1882 : decode code 1882 = .ok (.iload_n 3, 1) := by decide +kernel
theorem dL_law_1883 : decode code 1883 = .ok (.iconst 3, 1) := by decide +kernel
theorem dL_law_1884 : decode code 1884 = .ok (.iadd, 1) := by decide +kernel
theorem dL_law_1885 : decode code 1885 = .ok (.iaload, 1) := by decide +kernel
theorem dL_law_1886 : decode code 1886 = .ok (.i2l, 1) := by decide +kernel
theorem dL_law_1887 : decode code 1887 = .ok (.bipush 32, 2) := by decide +kernel
theorem dL_law_1889 : decode code 1889 = .ok (.lshl, 1) := by decide +kernel
theorem dL_law_1890 : decode code 1890 = .ok (.aload_n 0, 1) := by decide +kernel
theorem dL_law_1891 : decode code 1891 = .ok (.iload_n 3, 1) := by decide +kernel
theorem dL_law_1892 : decode code 1892 = .ok (.iconst 4, 1) := by decide +kernel
theorem dL_law_1893 : decode code 1893 = .ok (.iadd, 1) := by decide +kernel
theorem dL_law_1894 : decode code 1894 = .ok (.iaload, 1) := by decide +kernel
theorem dL_law_1895 : decode code 1895 = .ok (.i2l, 1) := by decide +kernel
theorem dL_law_1896 : decode code 1896 = .ok (.ldc2_w 266, 3) := by decide +kernel
theorem dL_law_1899 : decode code 1899 = .ok (.land, 1) := by decide +kernel
theorem dL_law_1900 : decode code 1900 = .ok (.lor, 1) := by decide +kernel
theorem dL_law_1901 : decode code 1901 = .ok (.invokevirtual 268, 3) := by decide +kernel
theorem dL_law_1904 : decode code 1904 = .ok (.pop, 1) := by decide +kernel
theorem dL_law_1905 : decode code 1905 = .ok (.aload_n 2, 1) := by decide +kernel
theorem dL_law_1906 : decode code 1906 = .ok (.aload_n 0, 1) := by decide +kernel
theorem dL_law_1907 : decode code 1907 = .ok (.iload_n 3, 1) := by decide +kernel
theorem dL_law_1908 : decode code 1908 = .ok (.iconst 1, 1) := by decide +kernel
theorem dL_law_1909 : decode code 1909 = .ok (.iadd, 1) := by decide +kernel
theorem dL_law_1910 : decode code 1910 = .ok (.iaload, 1) := by decide +kernel
theorem dL_law_1911 : decode code 1911 = .ok (.aload_n 0, 1) := by decide +kernel
theorem dL_law_1912 : decode code 1912 = .ok (.iload_n 3, 1) := by decide +kernel
theorem dL_law_1913 : decode code 1913 = .ok (.iconst 2, 1) := by decide +kernel
theorem dL_law_1914 : decode code 1914 = .ok (.iadd, 1) := by decide +kernel
theorem dL_law_1915 : decode code 1915 = .ok (.iaload, 1) := by decide +kernel
theorem dL_law_1916 : decode code 1916 = .ok (.aload_n 0, 1) := by decide +kernel
theorem dL_law_1917 : decode code 1917 = .ok (.iload_n 3, 1) := by decide +kernel
theorem dL_law_1918 : decode code 1918 = .ok (.iconst 3, 1) := by decide +kernel
theorem dL_law_1919 : decode code 1919 = .ok (.iadd, 1) := by decide +kernel
theorem dL_law_1920 : decode code 1920 = .ok (.iaload, 1) := by decide +kernel
theorem dL_law_1921 : decode code 1921 = .ok (.i2l, 1) := by decide +kernel
theorem dL_law_1922 : decode code 1922 = .ok (.bipush 32, 2) := by decide +kernel
theorem dL_law_1924 : decode code 1924 = .ok (.lshl, 1) := by decide +kernel
theorem dL_law_1925 : decode code 1925 = .ok (.aload_n 0, 1) := by decide +kernel
theorem dL_law_1926 : decode code 1926 = .ok (.iload_n 3, 1) := by decide +kernel
theorem dL_law_1927 : decode code 1927 = .ok (.iconst 4, 1) := by decide +kernel
theorem dL_law_1928 : decode code 1928 = .ok (.iadd, 1) := by decide +kernel
theorem dL_law_1929 : decode code 1929 = .ok (.iaload, 1) := by decide +kernel
theorem dL_law_1930 : decode code 1930 = .ok (.i2l, 1) := by decide +kernel
theorem dL_law_1931 : decode code 1931 = .ok (.ldc2_w 266, 3) := by decide +kernel
theorem dL_law_1934 : decode code 1934 = .ok (.land, 1) := by decide +kernel
theorem dL_law_1935 : decode code 1935 = .ok (.lor, 1) := by decide +kernel
theorem dL_law_1936 : decode code 1936 = .ok (.invokevirtual 272, 3) := by decide +kernel
theorem dL_law_1939 : decode code 1939 = .ok (.pop, 1) := by decide +kernel
theorem dL_law_1940 : decode code 1940 = .ok (.goto 66, 3) := by decide +kernel
theorem dL_law_1943 : decode code 1943 = .ok (.aload_n 1, 1) := by decide +kernel
theorem dL_law_1944 : decode code 1944 = .ok (.aload_n 0, 1) := by decide +kernel
theorem dL_law_1945 : decode code 1945 = .ok (.iload_n 3, 1) := by decide +kernel
theorem dL_law_1946 : decode code 1946 = .ok (.iconst 1, 1) := by decide +kernel
theorem dL_law_1947 : decode code 1947 = .ok (.iadd, 1) := by decide +kernel
theorem dL_law_1948 : decode code 1948 = .ok (.iaload, 1) := by decide +kernel
theorem dL_law_1949 : decode code 1949 = .ok (.aload_n 0, 1) := by decide +kernel
theorem dL_law_1950 : decode code 1950 = .ok (.iload_n 3, 1) := by decide +kernel
theorem dL_law_1951 : decode code 1951 = .ok (.iconst 2, 1) := by decide +kernel
theorem dL_law_1952 : decode code 1952 = .ok (.iadd, 1) := by decide +kernel
theorem dL_law_1953 : decode code 1953 = .ok (.iaload, 1) := by decide +kernel
theorem dL_law_1954 : decode code 1954 = .ok (.aload_n 0, 1) := by decide +kernel
theorem dL_law_1955 : decode code 1955 = .ok (.iload_n 3, 1) := by decide +kernel
theorem dL_law_1956 : decode code 1956 = .ok (.iconst 3, 1) := by decide +kernel
theorem dL_law_1957 : decode code 1957 = .ok (.iadd, 1) := by decide +kernel
theorem dL_law_1958 : decode code 1958 = .ok (.iaload, 1) := by decide +kernel
theorem dL_law_1959 : decode code 1959 = .ok (.aload_n 0, 1) := by decide +kernel
theorem dL_law_1960 : decode code 1960 = .ok (.iload_n 3, 1) := by decide +kernel
theorem dL_law_1961 : decode code 1961 = .ok (.iconst 4, 1) := by decide +kernel
theorem dL_law_1962 : decode code 1962 = .ok (.iadd, 1) := by decide +kernel
theorem dL_law_1963 : decode code 1963 = .ok (.iaload, 1) := by decide +kernel
theorem dL_law_1964 : decode code 1964 = .ok (.aload_n 0, 1) := by decide +kernel
theorem dL_law_1965 : decode code 1965 = .ok (.iload_n 3, 1) := by decide +kernel
theorem dL_law_1966 : decode code 1966 = .ok (.iconst 5, 1) := by decide +kernel
theorem dL_law_1967 : decode code 1967 = .ok (.iadd, 1) := by decide +kernel
theorem dL_law_1968 : decode code 1968 = .ok (.iaload, 1) := by decide +kernel
theorem dL_law_1969 : decode code 1969 = .ok (.invokevirtual 273, 3) := by decide +kernel
theorem dL_law_1972 : decode code 1972 = .ok (.aload_n 2, 1) := by decide +kernel
theorem dL_law_1973 : decode code 1973 = .ok (.aload_n 0, 1) := by decide +kernel
theorem dL_law_1974 : decode code 1974 = .ok (.iload_n 3, 1) := by decide +kernel
theorem dL_law_1975 : decode code 1975 = .ok (.iconst 1, 1) := by decide +kernel
theorem dL_law_1976 : decode code 1976 = .ok (.iadd, 1) := by decide +kernel
theorem dL_law_1977 : decode code 1977 = .ok (.iaload, 1) := by decide +kernel
theorem dL_law_1978 : decode code 1978 = .ok (.aload_n 0, 1) := by decide +kernel
theorem dL_law_1979 : decode code 1979 = .ok (.iload_n 3, 1) := by decide +kernel
theorem dL_law_1980 : decode code 1980 = .ok (.iconst 2, 1) := by decide +kernel
theorem dL_law_1981 : decode code 1981 = .ok (.iadd, 1) := by decide +kernel
theorem dL_law_1982 : decode code 1982 = .ok (.iaload, 1) := by decide +kernel
theorem dL_law_1983 : decode code 1983 = .ok (.aload_n 0, 1) := by decide +kernel
theorem dL_law_1984 : decode code 1984 = .ok (.iload_n 3, 1) := by decide +kernel
theorem dL_law_1985 : decode code 1985 = .ok (.iconst 3, 1) := by decide +kernel
theorem dL_law_1986 : decode code 1986 = .ok (.iadd, 1) := by decide +kernel
theorem dL_law_1987 : decode code 1987 = .ok (.iaload, 1) := by decide +kernel
theorem dL_law_1988 : decode code 1988 = .ok (.aload_n 0, 1) := by decide +kernel
theorem dL_law_1989 : decode code 1989 = .ok (.iload_n 3, 1) := by decide +kernel
theorem dL_law_1990 : decode code 1990 = .ok (.iconst 4, 1) := by decide +kernel
theorem dL_law_1991 : decode code 1991 = .ok (.iadd, 1) := by decide +kernel
theorem dL_law_1992 : decode code 1992 = .ok (.iaload, 1) := by decide +kernel
theorem dL_law_1993 : decode code 1993 = .ok (.aload_n 0, 1) := by decide +kernel
theorem dL_law_1994 : decode code 1994 = .ok (.iload_n 3, 1) := by decide +kernel
theorem dL_law_1995 : decode code 1995 = .ok (.iconst 5, 1) := by decide +kernel
theorem dL_law_1996 : decode code 1996 = .ok (.iadd, 1) := by decide +kernel
theorem dL_law_1997 : decode code 1997 = .ok (.iaload, 1) := by decide +kernel
theorem dL_law_1998 : decode code 1998 = .ok (.invokevirtual 276, 3) := by decide +kernel
theorem dL_law_2001 : decode code 2001 = .ok (.if_icmp .eq 5, 3) := by decide +kernel
theorem dL_law_2006 : decode code 2006 = .ok (.iinc 3 6, 3) := by decide +kernel
theorem dL_law_2009 : decode code 2009 = .ok (.goto (-1991), 3) := by decide +kernel
theorem dL_law_2012 : decode code 2012 = .ok (.iconst 1, 1) := by decide +kernel
theorem dL_law_2013 : decode code 2013 = .ok (.ireturn, 1) := by decide +kernel
theorem dX0_init_0 : decode cX0_init 0 = .ok (.aload_n 0, 1) := by decide +kernel
theorem dX0_init_1 : decode cX0_init 1 = .ok (.invokespecial 3, 3) := by decide +kernel
theorem dX0_init_4 : decode cX0_init 4 = .ok (.aload_n 0, 1) := by decide +kernel
theorem dX0_init_5 : decode cX0_init 5 = .ok (.iconst 4, 1) := by decide +kernel
theorem dX0_init_6 : decode cX0_init 6 = .ok (.newarray .int, 2) := by decide +kernel
theorem dX0_init_8 : decode cX0_init 8 = .ok (.putfield 9, 3) := by decide +kernel
theorem dX0_init_11 : decode cX0_init 11 = .ok (.aload_n 0, 1) := by decide +kernel
theorem dX0_init_12 : decode cX0_init 12 = .ok (.bipush 9, 2) := by decide +kernel
theorem dX0_init_14 : decode cX0_init 14 = .ok (.newarray .int, 2) := by decide +kernel
theorem dX0_init_16 : decode cX0_init 16 = .ok (.putfield 15, 3) := by decide +kernel
theorem dX0_init_19 : decode cX0_init 19 = .ok (.aload_n 0, 1) := by decide +kernel
theorem dX0_init_20 : decode cX0_init 20 = .ok (.bipush 9, 2) := by decide +kernel
theorem dX0_init_22 : decode cX0_init 22 = .ok (.newarray .int, 2) := by decide +kernel
theorem dX0_init_24 : decode cX0_init 24 = .ok (.putfield 18, 3) := by decide +kernel
theorem dX0_init_27 : decode cX0_init 27 = .ok (.aload_n 0, 1) := by decide +kernel
theorem dX0_init_28 : decode cX0_init 28 = .ok (.bipush 9, 2) := by decide +kernel
theorem dX0_init_30 : decode cX0_init 30 = .ok (.newarray .int, 2) := by decide +kernel
theorem dX0_init_32 : decode cX0_init 32 = .ok (.putfield 21, 3) := by decide +kernel
theorem dX0_init_35 : decode cX0_init 35 = .ok (.aload_n 0, 1) := by decide +kernel
theorem dX0_init_36 : decode cX0_init 36 = .ok (.bipush 9, 2) := by decide +kernel
theorem dX0_init_38 : decode cX0_init 38 = .ok (.newarray .int, 2) := by decide +kernel
theorem dX0_init_40 : decode cX0_init 40 = .ok (.putfield 24, 3) := by decide +kernel
theorem dX0_init_43 : decode cX0_init 43 = .ok (.aload_n 0, 1) := by decide +kernel
theorem dX0_init_44 : decode cX0_init 44 = .ok (.bipush 9, 2) := by decide +kernel
theorem dX0_init_46 : decode cX0_init 46 = .ok (.newarray .int, 2) := by decide +kernel
theorem dX0_init_48 : decode cX0_init 48 = .ok (.putfield 27, 3) := by decide +kernel
theorem dX0_init_51 : decode cX0_init 51 = .ok (.aload_n 0, 1) := by decide +kernel
theorem dX0_init_52 : decode cX0_init 52 = .ok (.bipush 9, 2) := by decide +kernel
theorem dX0_init_54 : decode cX0_init 54 = .ok (.newarray .int, 2) := by decide +kernel
theorem dX0_init_56 : decode cX0_init 56 = .ok (.putfield 30, 3) := by decide +kernel
theorem dX0_init_59 : decode cX0_init 59 = .ok (.aload_n 0, 1) := by decide +kernel
theorem dX0_init_60 : decode cX0_init 60 = .ok (.bipush 9, 2) := by decide +kernel
theorem dX0_init_62 : decode cX0_init 62 = .ok (.newarray .int, 2) := by decide +kernel
theorem dX0_init_64 : decode cX0_init 64 = .ok (.putfield 33, 3) := by decide +kernel
theorem dX0_init_67 : decode cX0_init 67 = .ok (.aload_n 0, 1) := by decide +kernel
theorem dX0_init_68 : decode cX0_init 68 = .ok (.bipush 9, 2) := by decide +kernel
theorem dX0_init_70 : decode cX0_init 70 = .ok (.newarray .int, 2) := by decide +kernel
theorem dX0_init_72 : decode cX0_init 72 = .ok (.putfield 36, 3) := by decide +kernel
theorem dX0_init_75 : decode cX0_init 75 = .ok (.aload_n 0, 1) := by decide +kernel
theorem dX0_init_76 : decode cX0_init 76 = .ok (.new 39, 3) := by decide +kernel
theorem dX0_init_79 : decode cX0_init 79 = .ok (.dup, 1) := by decide +kernel
theorem dX0_init_80 : decode cX0_init 80 = .ok (.invokespecial 41, 3) := by decide +kernel
theorem dX0_init_83 : decode cX0_init 83 = .ok (.putfield 42, 3) := by decide +kernel
theorem dX0_init_86 : decode cX0_init 86 = .ok (.aload_n 0, 1) := by decide +kernel
theorem dX0_init_87 : decode cX0_init 87 = .ok (.new 46, 3) := by decide +kernel
theorem dX0_init_90 : decode cX0_init 90 = .ok (.dup, 1) := by decide +kernel
theorem dX0_init_91 : decode cX0_init 91 = .ok (.invokespecial 48, 3) := by decide +kernel
theorem dX0_init_94 : decode cX0_init 94 = .ok (.putfield 49, 3) := by decide +kernel
theorem dX0_init_97 : decode cX0_init 97 = .ok (.return_, 1) := by decide +kernel
theorem dX10_init_0 : decode cX10_init 0 = .ok (.aload_n 0, 1) := by decide +kernel
theorem dX10_init_1 : decode cX10_init 1 = .ok (.invokespecial 3, 3) := by decide +kernel
theorem dX10_init_4 : decode cX10_init 4 = .ok (.aload_n 0, 1) := by decide +kernel
theorem dX10_init_5 : decode cX10_init 5 = .ok (.bipush 8, 2) := by decide +kernel
theorem dX10_init_7 : decode cX10_init 7 = .ok (.newarray .int, 2) := by decide +kernel
theorem dX10_init_9 : decode cX10_init 9 = .ok (.putfield 9, 3) := by decide +kernel
theorem dX10_init_12 : decode cX10_init 12 = .ok (.aload_n 0, 1) := by decide +kernel
theorem dX10_init_13 : decode cX10_init 13 = .ok (.bipush 8, 2) := by decide +kernel
theorem dX10_init_15 : decode cX10_init 15 = .ok (.newarray .int, 2) := by decide +kernel
theorem dX10_init_17 : decode cX10_init 17 = .ok (.putfield 15, 3) := by decide +kernel
theorem dX10_init_20 : decode cX10_init 20 = .ok (.aload_n 0, 1) := by decide +kernel
theorem dX10_init_21 : decode cX10_init 21 = .ok (.aload_n 1, 1) := by decide +kernel
theorem dX10_init_22 : decode cX10_init 22 = .ok (.putfield 18, 3) := by decide +kernel
theorem dX10_init_25 : decode cX10_init 25 = .ok (.return_, 1) := by decide +kernel
theorem dX11_init_0 : decode cX11_init 0 = .ok (.aload_n 0, 1) := by decide +kernel
theorem dX11_init_1 : decode cX11_init 1 = .ok (.invokespecial 1, 3) := by decide +kernel
theorem dX11_init_4 : decode cX11_init 4 = .ok (.aload_n 0, 1) := by decide +kernel
theorem dX11_init_5 : decode cX11_init 5 = .ok (.new 7, 3) := by decide +kernel
theorem dX11_init_8 : decode cX11_init 8 = .ok (.dup, 1) := by decide +kernel
theorem dX11_init_9 : decode cX11_init 9 = .ok (.invokespecial 9, 3) := by decide +kernel
theorem dX11_init_12 : decode cX11_init 12 = .ok (.putfield 10, 3) := by decide +kernel
theorem dX11_init_15 : decode cX11_init 15 = .ok (.aload_n 0, 1) := by decide +kernel
theorem dX11_init_16 : decode cX11_init 16 = .ok (.new 16, 3) := by decide +kernel
theorem dX11_init_19 : decode cX11_init 19 = .ok (.dup, 1) := by decide +kernel
theorem dX11_init_20 : decode cX11_init 20 = .ok (.invokespecial 18, 3) := by decide +kernel
theorem dX11_init_23 : decode cX11_init 23 = .ok (.putfield 19, 3) := by decide +kernel
theorem dX11_init_26 : decode cX11_init 26 = .ok (.aload_n 0, 1) := by decide +kernel
theorem dX11_init_27 : decode cX11_init 27 = .ok (.new 23, 3) := by decide +kernel
theorem dX11_init_30 : decode cX11_init 30 = .ok (.dup, 1) := by decide +kernel
theorem dX11_init_31 : decode cX11_init 31 = .ok (.aload_n 0, 1) := by decide +kernel
theorem dX11_init_32 : decode cX11_init 32 = .ok (.getfield 10, 3) := by decide +kernel
theorem dX11_init_35 : decode cX11_init 35 = .ok (.aload_n 0, 1) := by decide +kernel
theorem dX11_init_36 : decode cX11_init 36 = .ok (.getfield 19, 3) := by decide +kernel
theorem dX11_init_39 : decode cX11_init 39 = .ok (.invokespecial 25, 3) := by decide +kernel
theorem dX11_init_42 : decode cX11_init 42 = .ok (.putfield 28, 3) := by decide +kernel
theorem dX11_init_45 : decode cX11_init 45 = .ok (.aload_n 0, 1) := by decide +kernel
theorem dX11_init_46 : decode cX11_init 46 = .ok (.new 16, 3) := by decide +kernel
theorem dX11_init_49 : decode cX11_init 49 = .ok (.dup, 1) := by decide +kernel
theorem dX11_init_50 : decode cX11_init 50 = .ok (.invokespecial 18, 3) := by decide +kernel
theorem dX11_init_53 : decode cX11_init 53 = .ok (.putfield 32, 3) := by decide +kernel
theorem dX11_init_56 : decode cX11_init 56 = .ok (.aload_n 0, 1) := by decide +kernel
theorem dX11_init_57 : decode cX11_init 57 = .ok (.iconst 3, 1) := by decide +kernel
theorem dX11_init_58 : decode cX11_init 58 = .ok (.anewarray 16, 3) := by decide +kernel
theorem dX11_init_61 : decode cX11_init 61 = .ok (.putfield 35, 3) := by decide +kernel
theorem dX11_init_64 : decode cX11_init 64 = .ok (.aload_n 0, 1) := by decide +kernel
theorem dX11_init_65 : decode cX11_init 65 = .ok (.iconst 4, 1) := by decide +kernel
theorem dX11_init_66 : decode cX11_init 66 = .ok (.anewarray 39, 3) := by decide +kernel
theorem dX11_init_69 : decode cX11_init 69 = .ok (.putfield 41, 3) := by decide +kernel
theorem dX11_init_72 : decode cX11_init 72 = .ok (.aload_n 0, 1) := by decide +kernel
theorem dX11_init_73 : decode cX11_init 73 = .ok (.new 45, 3) := by decide +kernel
theorem dX11_init_76 : decode cX11_init 76 = .ok (.dup, 1) := by decide +kernel
theorem dX11_init_77 : decode cX11_init 77 = .ok (.aload_n 0, 1) := by decide +kernel
theorem dX11_init_78 : decode cX11_init 78 = .ok (.getfield 32, 3) := by decide +kernel
theorem dX11_init_81 : decode cX11_init 81 = .ok (.invokespecial 47, 3) := by decide +kernel
theorem dX11_init_84 : decode cX11_init 84 = .ok (.putfield 50, 3) := by decide +kernel
theorem dX11_init_87 : decode cX11_init 87 = .ok (.aload_n 0, 1) := by decide +kernel
theorem dX11_init_88 : decode cX11_init 88 = .ok (.new 54, 3) := by decide +kernel
theorem dX11_init_91 : decode cX11_init 91 = .ok (.dup, 1) := by decide +kernel
theorem dX11_init_92 : decode cX11_init 92 = .ok (.aload_n 0, 1) := by decide +kernel
theorem dX11_init_93 : decode cX11_init 93 = .ok (.getfield 32, 3) := by decide +kernel
theorem dX11_init_96 : decode cX11_init 96 = .ok (.invokespecial 56, 3) := by decide +kernel
theorem dX11_init_99 : decode cX11_init 99 = .ok (.putfield 57, 3) := by decide +kernel
theorem dX11_init_102 : decode cX11_init 102 = .ok (.aload_n 0, 1) := by decide +kernel
theorem dX11_init_103 : decode cX11_init 103 = .ok (.new 61, 3) := by decide +kernel
theorem dX11_init_106 : decode cX11_init 106 = .ok (.dup, 1) := by decide +kernel
theorem dX11_init_107 : decode cX11_init 107 = .ok (.aload_n 0, 1) := by decide +kernel
theorem dX11_init_108 : decode cX11_init 108 = .ok (.getfield 32, 3) := by decide +kernel
theorem dX11_init_111 : decode cX11_init 111 = .ok (.invokespecial 63, 3) := by decide +kernel
theorem dX11_init_114 : decode cX11_init 114 = .ok (.putfield 64, 3) := by decide +kernel
theorem dX11_init_117 : decode cX11_init 117 = .ok (.aload_n 0, 1) := by decide +kernel
theorem dX11_init_118 : decode cX11_init 118 = .ok (.new 68, 3) := by decide +kernel
theorem dX11_init_121 : decode cX11_init 121 = .ok (.dup, 1) := by decide +kernel
theorem dX11_init_122 : decode cX11_init 122 = .ok (.aload_n 0, 1) := by decide +kernel
theorem dX11_init_123 : decode cX11_init 123 = .ok (.getfield 32, 3) := by decide +kernel
theorem dX11_init_126 : decode cX11_init 126 = .ok (.aload_n 0, 1) := by decide +kernel
theorem dX11_init_127 : decode cX11_init 127 = .ok (.getfield 50, 3) := by decide +kernel
theorem dX11_init_130 : decode cX11_init 130 = .ok (.invokespecial 70, 3) := by decide +kernel
theorem dX11_init_133 : decode cX11_init 133 = .ok (.putfield 73, 3) := by decide +kernel
theorem dX11_init_136 : decode cX11_init 136 = .ok (.aload_n 0, 1) := by decide +kernel
theorem dX11_init_137 : decode cX11_init 137 = .ok (.new 77, 3) := by decide +kernel
theorem dX11_init_140 : decode cX11_init 140 = .ok (.dup, 1) := by decide +kernel
theorem dX11_init_141 : decode cX11_init 141 = .ok (.aload_n 0, 1) := by decide +kernel
theorem dX11_init_142 : decode cX11_init 142 = .ok (.getfield 32, 3) := by decide +kernel
theorem dX11_init_145 : decode cX11_init 145 = .ok (.aload_n 0, 1) := by decide +kernel
theorem dX11_init_146 : decode cX11_init 146 = .ok (.getfield 57, 3) := by decide +kernel
theorem dX11_init_149 : decode cX11_init 149 = .ok (.invokespecial 79, 3) := by decide +kernel
theorem dX11_init_152 : decode cX11_init 152 = .ok (.putfield 82, 3) := by decide +kernel
theorem dX11_init_155 : decode cX11_init 155 = .ok (.iconst 0, 1) := by decide +kernel
theorem dX11_init_156 : decode cX11_init 156 = .ok (.istore_n 1, 1) := by decide +kernel
theorem dX11_init_157 : decode cX11_init 157 = .ok (.iload_n 1, 1) := by decide +kernel
theorem dX11_init_158 : decode cX11_init 158 = .ok (.iconst 3, 1) := by decide +kernel
theorem dX11_init_159 : decode cX11_init 159 = .ok (.if_icmp .ge 22, 3) := by decide +kernel
theorem dX11_init_162 : decode cX11_init 162 = .ok (.aload_n 0, 1) := by decide +kernel
theorem dX11_init_163 : decode cX11_init 163 = .ok (.getfield 35, 3) := by decide +kernel
theorem dX11_init_166 : decode cX11_init 166 = .ok (.iload_n 1, 1) := by decide +kernel
theorem dX11_init_167 : decode cX11_init 167 = .ok (.new 16, 3) := by decide +kernel
theorem dX11_init_170 : decode cX11_init 170 = .ok (.dup, 1) := by decide +kernel
theorem dX11_init_171 : decode cX11_init 171 = .ok (.invokespecial 18, 3) := by decide +kernel
theorem dX11_init_174 : decode cX11_init 174 = .ok (.aastore, 1) := by decide +kernel
theorem dX11_init_175 : decode cX11_init 175 = .ok (.iinc 1 1, 3) := by decide +kernel
theorem dX11_init_178 : decode cX11_init 178 = .ok (.goto (-21), 3) := by decide +kernel
theorem dX11_init_181 : decode cX11_init 181 = .ok (.iconst 0, 1) := by decide +kernel
theorem dX11_init_182 : decode cX11_init 182 = .ok (.istore_n 1, 1) := by decide +kernel
theorem dX11_init_183 : decode cX11_init 183 = .ok (.iload_n 1, 1) := by decide +kernel
theorem dX11_init_184 : decode cX11_init 184 = .ok (.iconst 4, 1) := by decide +kernel
theorem dX11_init_185 : decode cX11_init 185 = .ok (.if_icmp .ge 22, 3) := by decide +kernel
theorem dX11_init_188 : decode cX11_init 188 = .ok (.aload_n 0, 1) := by decide +kernel
theorem dX11_init_189 : decode cX11_init 189 = .ok (.getfield 41, 3) := by decide +kernel
theorem dX11_init_192 : decode cX11_init 192 = .ok (.iload_n 1, 1) := by decide +kernel
theorem dX11_init_193 : decode cX11_init 193 = .ok (.new 39, 3) := by decide +kernel
theorem dX11_init_196 : decode cX11_init 196 = .ok (.dup, 1) := by decide +kernel
theorem dX11_init_197 : decode cX11_init 197 = .ok (.invokespecial 86, 3) := by decide +kernel
theorem dX11_init_200 : decode cX11_init 200 = .ok (.aastore, 1) := by decide +kernel
theorem dX11_init_201 : decode cX11_init 201 = .ok (.iinc 1 1, 3) := by decide +kernel
theorem dX11_init_204 : decode cX11_init 204 = .ok (.goto (-21), 3) := by decide +kernel
theorem dX11_init_207 : decode cX11_init 207 = .ok (.return_, 1) := by decide +kernel
theorem dX12_init_0 : decode cX12_init 0 = .ok (.aload_n 0, 1) := by decide +kernel
theorem dX12_init_1 : decode cX12_init 1 = .ok (.invokespecial 3, 3) := by decide +kernel
theorem dX12_init_4 : decode cX12_init 4 = .ok (.aload_n 0, 1) := by decide +kernel
theorem dX12_init_5 : decode cX12_init 5 = .ok (.sipush 841, 3) := by decide +kernel
theorem dX12_init_8 : decode cX12_init 8 = .ok (.newarray .int, 2) := by decide +kernel
theorem dX12_init_10 : decode cX12_init 10 = .ok (.putfield 9, 3) := by decide +kernel
theorem dX12_init_13 : decode cX12_init 13 = .ok (.aload_n 0, 1) := by decide +kernel
theorem dX12_init_14 : decode cX12_init 14 = .ok (.sipush 2523, 3) := by decide +kernel
theorem dX12_init_17 : decode cX12_init 17 = .ok (.newarray .int, 2) := by decide +kernel
theorem dX12_init_19 : decode cX12_init 19 = .ok (.putfield 13, 3) := by decide +kernel
theorem dX12_init_22 : decode cX12_init 22 = .ok (.aload_n 0, 1) := by decide +kernel
theorem dX12_init_23 : decode cX12_init 23 = .ok (.iconst 3, 1) := by decide +kernel
theorem dX12_init_24 : decode cX12_init 24 = .ok (.newarray .boolean, 2) := by decide +kernel
theorem dX12_init_26 : decode cX12_init 26 = .ok (.putfield 16, 3) := by decide +kernel
theorem dX12_init_29 : decode cX12_init 29 = .ok (.aload_n 0, 1) := by decide +kernel
theorem dX12_init_30 : decode cX12_init 30 = .ok (.sipush 1600, 3) := by decide +kernel
theorem dX12_init_33 : decode cX12_init 33 = .ok (.newarray .byte, 2) := by decide +kernel
theorem dX12_init_35 : decode cX12_init 35 = .ok (.putfield 20, 3) := by decide +kernel
theorem dX12_init_38 : decode cX12_init 38 = .ok (.aload_n 0, 1) := by decide +kernel
theorem dX12_init_39 : decode cX12_init 39 = .ok (.iconst 5, 1) := by decide +kernel
theorem dX12_init_40 : decode cX12_init 40 = .ok (.newarray .int, 2) := by decide +kernel
theorem dX12_init_42 : decode cX12_init 42 = .ok (.putfield 24, 3) := by decide +kernel
theorem dX12_init_45 : decode cX12_init 45 = .ok (.aload_n 0, 1) := by decide +kernel
theorem dX12_init_46 : decode cX12_init 46 = .ok (.iconst (-1), 1) := by decide +kernel
theorem dX12_init_47 : decode cX12_init 47 = .ok (.putfield 27, 3) := by decide +kernel
theorem dX12_init_50 : decode cX12_init 50 = .ok (.aload_n 0, 1) := by decide +kernel
theorem dX12_init_51 : decode cX12_init 51 = .ok (.sipush 841, 3) := by decide +kernel
theorem dX12_init_54 : decode cX12_init 54 = .ok (.newarray .int, 2) := by decide +kernel
theorem dX12_init_56 : decode cX12_init 56 = .ok (.putfield 31, 3) := by decide +kernel
theorem dX12_init_59 : decode cX12_init 59 = .ok (.aload_n 0, 1) := by decide +kernel
theorem dX12_init_60 : decode cX12_init 60 = .ok (.bipush 9, 2) := by decide +kernel
theorem dX12_init_62 : decode cX12_init 62 = .ok (.newarray .int, 2) := by decide +kernel
theorem dX12_init_64 : decode cX12_init 64 = .ok (.putfield 34, 3) := by decide +kernel
theorem dX12_init_67 : decode cX12_init 67 = .ok (.aload_n 0, 1) := by decide +kernel
theorem dX12_init_68 : decode cX12_init 68 = .ok (.iconst (-1), 1) := by decide +kernel
theorem dX12_init_69 : decode cX12_init 69 = .ok (.putfield 37, 3) := by decide +kernel
theorem dX12_init_72 : decode cX12_init 72 = .ok (.aload_n 0, 1) := by decide +kernel
theorem dX12_init_73 : decode cX12_init 73 = .ok (.bipush 9, 2) := by decide +kernel
theorem dX12_init_75 : decode cX12_init 75 = .ok (.newarray .int, 2) := by decide +kernel
theorem dX12_init_77 : decode cX12_init 77 = .ok (.putfield 40, 3) := by decide +kernel
theorem dX12_init_80 : decode cX12_init 80 = .ok (.aload_n 0, 1) := by decide +kernel
theorem dX12_init_81 : decode cX12_init 81 = .ok (.bipush 9, 2) := by decide +kernel
theorem dX12_init_83 : decode cX12_init 83 = .ok (.newarray .int, 2) := by decide +kernel
theorem dX12_init_85 : decode cX12_init 85 = .ok (.putfield 43, 3) := by decide +kernel
theorem dX12_init_88 : decode cX12_init 88 = .ok (.aload_n 0, 1) := by decide +kernel
theorem dX12_init_89 : decode cX12_init 89 = .ok (.bipush 9, 2) := by decide +kernel
theorem dX12_init_91 : decode cX12_init 91 = .ok (.newarray .int, 2) := by decide +kernel
theorem dX12_init_93 : decode cX12_init 93 = .ok (.putfield 46, 3) := by decide +kernel
theorem dX12_init_96 : decode cX12_init 96 = .ok (.aload_n 0, 1) := by decide +kernel
theorem dX12_init_97 : decode cX12_init 97 = .ok (.bipush 8, 2) := by decide +kernel
theorem dX12_init_99 : decode cX12_init 99 = .ok (.newarray .int, 2) := by decide +kernel
theorem dX12_init_101 : decode cX12_init 101 = .ok (.putfield 49, 3) := by decide +kernel
theorem dX12_init_104 : decode cX12_init 104 = .ok (.aload_n 0, 1) := by decide +kernel
theorem dX12_init_105 : decode cX12_init 105 = .ok (.bipush 8, 2) := by decide +kernel
theorem dX12_init_107 : decode cX12_init 107 = .ok (.newarray .int, 2) := by decide +kernel
theorem dX12_init_109 : decode cX12_init 109 = .ok (.putfield 52, 3) := by decide +kernel
theorem dX12_init_112 : decode cX12_init 112 = .ok (.aload_n 0, 1) := by decide +kernel
theorem dX12_init_113 : decode cX12_init 113 = .ok (.iconst 4, 1) := by decide +kernel
theorem dX12_init_114 : decode cX12_init 114 = .ok (.newarray .int, 2) := by decide +kernel
theorem dX12_init_116 : decode cX12_init 116 = .ok (.putfield 55, 3) := by decide +kernel
theorem dX12_init_119 : decode cX12_init 119 = .ok (.aload_n 0, 1) := by decide +kernel
theorem dX12_init_120 : decode cX12_init 120 = .ok (.iconst 4, 1) := by decide +kernel
theorem dX12_init_121 : decode cX12_init 121 = .ok (.newarray .int, 2) := by decide +kernel
theorem dX12_init_123 : decode cX12_init 123 = .ok (.putfield 58, 3) := by decide +kernel
theorem dX12_init_126 : decode cX12_init 126 = .ok (.aload_n 0, 1) := by decide +kernel
theorem dX12_init_127 : decode cX12_init 127 = .ok (.bipush 9, 2) := by decide +kernel
theorem dX12_init_129 : decode cX12_init 129 = .ok (.newarray .int, 2) := by decide +kernel
theorem dX12_init_131 : decode cX12_init 131 = .ok (.putfield 61, 3) := by decide +kernel
theorem dX12_init_134 : decode cX12_init 134 = .ok (.aload_n 0, 1) := by decide +kernel
theorem dX12_init_135 : decode cX12_init 135 = .ok (.iconst 4, 1) := by decide +kernel
theorem dX12_init_136 : decode cX12_init 136 = .ok (.newarray .int, 2) := by decide +kernel
theorem dX12_init_138 : decode cX12_init 138 = .ok (.dup, 1) := by decide +kernel
theorem dX12_init_139 : decode cX12_init 139 = .ok (.iconst 0, 1) := by decide +kernel
theorem dX12_init_140 : decode cX12_init 140 = .ok (.iconst (-1), 1) := by decide +kernel
theorem dX12_init_141 : decode cX12_init 141 = .ok (.iastore, 1) := by decide +kernel
theorem dX12_init_142 : decode cX12_init 142 = .ok (.dup, 1) := by decide +kernel
theorem dX12_init_143 : decode cX12_init 143 = .ok (.iconst 1, 1) := by decide +kernel
theorem dX12_init_144 : decode cX12_init 144 = .ok (.iconst (-1), 1) := by decide +kernel
theorem dX12_init_145 : decode cX12_init 145 = .ok (.iastore, 1) := by decide +kernel
theorem dX12_init_146 : decode cX12_init 146 = .ok (.dup, 1) := by decide +kernel
theorem dX12_init_147 : decode cX12_init 147 = .ok (.iconst 2, 1) := by decide +kernel
theorem dX12_init_148 : decode cX12_init 148 = .ok (.iconst (-1), 1) := by decide +kernel
theorem dX12_init_149 : decode cX12_init 149 = .ok (.iastore, 1) := by decide +kernel
theorem dX12_init_150 : decode cX12_init 150 = .ok (.dup, 1) := by decide +kernel
theorem dX12_init_151 : decode cX12_init 151 = .ok (.iconst 3, 1) := by decide +kernel
theorem dX12_init_152 : decode cX12_init 152 = .ok (.iconst (-1), 1) := by decide +kernel
theorem dX12_init_153 : decode cX12_init 153 = .ok (.iastore, 1) := by decide +kernel
theorem dX12_init_154 : decode cX12_init 154 = .ok (.putfield 64, 3) := by decide +kernel
theorem dX12_init_157 : decode cX12_init 157 = .ok (.aload_n 0, 1) := by decide +kernel
theorem dX12_init_158 : decode cX12_init 158 = .ok (.iconst 4, 1) := by decide +kernel
theorem dX12_init_159 : decode cX12_init 159 = .ok (.newarray .int, 2) := by decide +kernel
theorem dX12_init_161 : decode cX12_init 161 = .ok (.putfield 67, 3) := by decide +kernel
theorem dX12_init_164 : decode cX12_init 164 = .ok (.aload_n 0, 1) := by decide +kernel
theorem dX12_init_165 : decode cX12_init 165 = .ok (.sipush 240, 3) := by decide +kernel
theorem dX12_init_168 : decode cX12_init 168 = .ok (.newarray .long, 2) := by decide +kernel
theorem dX12_init_170 : decode cX12_init 170 = .ok (.putfield 70, 3) := by decide +kernel
theorem dX12_init_173 : decode cX12_init 173 = .ok (.aload_n 0, 1) := by decide +kernel
theorem dX12_init_174 : decode cX12_init 174 = .ok (.bipush 60, 2) := by decide +kernel
theorem dX12_init_176 : decode cX12_init 176 = .ok (.newarray .long, 2) := by decide +kernel
theorem dX12_init_178 : decode cX12_init 178 = .ok (.putfield 74, 3) := by decide +kernel
theorem dX12_init_181 : decode cX12_init 181 = .ok (.return_, 1) := by decide +kernel
theorem dX1_init_0 : decode cX1_init 0 = .ok (.aload_n 0, 1) := by decide +kernel
theorem dX1_init_1 : decode cX1_init 1 = .ok (.invokespecial 3, 3) := by decide +kernel
theorem dX1_init_4 : decode cX1_init 4 = .ok (.aload_n 0, 1) := by decide +kernel
theorem dX1_init_5 : decode cX1_init 5 = .ok (.sipush 256, 3) := by decide +kernel
theorem dX1_init_8 : decode cX1_init 8 = .ok (.newarray .boolean, 2) := by decide +kernel
theorem dX1_init_10 : decode cX1_init 10 = .ok (.putfield 11, 3) := by decide +kernel
theorem dX1_init_13 : decode cX1_init 13 = .ok (.aload_n 0, 1) := by decide +kernel
theorem dX1_init_14 : decode cX1_init 14 = .ok (.iconst 4, 1) := by decide +kernel
theorem dX1_init_15 : decode cX1_init 15 = .ok (.newarray .int, 2) := by decide +kernel
theorem dX1_init_17 : decode cX1_init 17 = .ok (.putfield 15, 3) := by decide +kernel
theorem dX1_init_20 : decode cX1_init 20 = .ok (.aload_n 0, 1) := by decide +kernel
theorem dX1_init_21 : decode cX1_init 21 = .ok (.aload_n 1, 1) := by decide +kernel
theorem dX1_init_22 : decode cX1_init 22 = .ok (.putfield 19, 3) := by decide +kernel
theorem dX1_init_25 : decode cX1_init 25 = .ok (.aload_n 0, 1) := by decide +kernel
theorem dX1_init_26 : decode cX1_init 26 = .ok (.aload_n 2, 1) := by decide +kernel
theorem dX1_init_27 : decode cX1_init 27 = .ok (.putfield 23, 3) := by decide +kernel
theorem dX1_init_30 : decode cX1_init 30 = .ok (.return_, 1) := by decide +kernel
theorem dX2_init_0 : decode cX2_init 0 = .ok (.aload_n 0, 1) := by decide +kernel
theorem dX2_init_1 : decode cX2_init 1 = .ok (.invokespecial 5, 3) := by decide +kernel
theorem dX2_init_4 : decode cX2_init 4 = .ok (.aload_n 0, 1) := by decide +kernel
theorem dX2_init_5 : decode cX2_init 5 = .ok (.bipush 81, 2) := by decide +kernel
theorem dX2_init_7 : decode cX2_init 7 = .ok (.newarray .int, 2) := by decide +kernel
theorem dX2_init_9 : decode cX2_init 9 = .ok (.putfield 11, 3) := by decide +kernel
theorem dX2_init_12 : decode cX2_init 12 = .ok (.aload_n 0, 1) := by decide +kernel
theorem dX2_init_13 : decode cX2_init 13 = .ok (.bipush 9, 2) := by decide +kernel
theorem dX2_init_15 : decode cX2_init 15 = .ok (.newarray .int, 2) := by decide +kernel
theorem dX2_init_17 : decode cX2_init 17 = .ok (.putfield 15, 3) := by decide +kernel
theorem dX2_init_20 : decode cX2_init 20 = .ok (.aload_n 0, 1) := by decide +kernel
theorem dX2_init_21 : decode cX2_init 21 = .ok (.bipush 9, 2) := by decide +kernel
theorem dX2_init_23 : decode cX2_init 23 = .ok (.newarray .int, 2) := by decide +kernel
theorem dX2_init_25 : decode cX2_init 25 = .ok (.putfield 18, 3) := by decide +kernel
theorem dX2_init_28 : decode cX2_init 28 = .ok (.aload_n 0, 1) := by decide +kernel
theorem dX2_init_29 : decode cX2_init 29 = .ok (.aload_n 1, 1) := by decide +kernel
theorem dX2_init_30 : decode cX2_init 30 = .ok (.putfield 21, 3) := by decide +kernel
theorem dX2_init_33 : decode cX2_init 33 = .ok (.return_, 1) := by decide +kernel
theorem dX3_init_0 : decode cX3_init 0 = .ok (.aload_n 0, 1) := by decide +kernel
theorem dX3_init_1 : decode cX3_init 1 = .ok (.invokespecial 3, 3) := by decide +kernel
theorem dX3_init_4 : decode cX3_init 4 = .ok (.aload_n 0, 1) := by decide +kernel
theorem dX3_init_5 : decode cX3_init 5 = .ok (.iconst 4, 1) := by decide +kernel
theorem dX3_init_6 : decode cX3_init 6 = .ok (.newarray .int, 2) := by decide +kernel
theorem dX3_init_8 : decode cX3_init 8 = .ok (.putfield 9, 3) := by decide +kernel
theorem dX3_init_11 : decode cX3_init 11 = .ok (.aload_n 0, 1) := by decide +kernel
theorem dX3_init_12 : decode cX3_init 12 = .ok (.iconst 4, 1) := by decide +kernel
theorem dX3_init_13 : decode cX3_init 13 = .ok (.newarray .int, 2) := by decide +kernel
theorem dX3_init_15 : decode cX3_init 15 = .ok (.putfield 15, 3) := by decide +kernel
theorem dX3_init_18 : decode cX3_init 18 = .ok (.aload_n 0, 1) := by decide +kernel
theorem dX3_init_19 : decode cX3_init 19 = .ok (.aload_n 1, 1) := by decide +kernel
theorem dX3_init_20 : decode cX3_init 20 = .ok (.putfield 18, 3) := by decide +kernel
theorem dX3_init_23 : decode cX3_init 23 = .ok (.return_, 1) := by decide +kernel
theorem dX4_init_0 : decode cX4_init 0 = .ok (.aload_n 0, 1) := by decide +kernel
theorem dX4_init_1 : decode cX4_init 1 = .ok (.invokespecial 3, 3) := by decide +kernel
theorem dX4_init_4 : decode cX4_init 4 = .ok (.aload_n 0, 1) := by decide +kernel
theorem dX4_init_5 : decode cX4_init 5 = .ok (.iconst (-1), 1) := by decide +kernel
theorem dX4_init_6 : decode cX4_init 6 = .ok (.putfield 9, 3) := by decide +kernel
theorem dX4_init_9 : decode cX4_init 9 = .ok (.aload_n 0, 1) := by decide +kernel
theorem dX4_init_10 : decode cX4_init 10 = .ok (.aload_n 1, 1) := by decide +kernel
theorem dX4_init_11 : decode cX4_init 11 = .ok (.putfield 15, 3) := by decide +kernel
theorem dX4_init_14 : decode cX4_init 14 = .ok (.aload_n 0, 1) := by decide +kernel
theorem dX4_init_15 : decode cX4_init 15 = .ok (.aload_n 2, 1) := by decide +kernel
theorem dX4_init_16 : decode cX4_init 16 = .ok (.putfield 19, 3) := by decide +kernel
theorem dX4_init_19 : decode cX4_init 19 = .ok (.return_, 1) := by decide +kernel
theorem dX5_init_0 : decode cX5_init 0 = .ok (.aload_n 0, 1) := by decide +kernel
theorem dX5_init_1 : decode cX5_init 1 = .ok (.invokespecial 3, 3) := by decide +kernel
theorem dX5_init_4 : decode cX5_init 4 = .ok (.aload_n 0, 1) := by decide +kernel
theorem dX5_init_5 : decode cX5_init 5 = .ok (.bipush 8, 2) := by decide +kernel
theorem dX5_init_7 : decode cX5_init 7 = .ok (.newarray .int, 2) := by decide +kernel
theorem dX5_init_9 : decode cX5_init 9 = .ok (.putfield 9, 3) := by decide +kernel
theorem dX5_init_12 : decode cX5_init 12 = .ok (.aload_n 0, 1) := by decide +kernel
theorem dX5_init_13 : decode cX5_init 13 = .ok (.bipush 8, 2) := by decide +kernel
theorem dX5_init_15 : decode cX5_init 15 = .ok (.newarray .int, 2) := by decide +kernel
theorem dX5_init_17 : decode cX5_init 17 = .ok (.putfield 15, 3) := by decide +kernel
theorem dX5_init_20 : decode cX5_init 20 = .ok (.aload_n 0, 1) := by decide +kernel
theorem dX5_init_21 : decode cX5_init 21 = .ok (.bipush 8, 2) := by decide +kernel
theorem dX5_init_23 : decode cX5_init 23 = .ok (.newarray .int, 2) := by decide +kernel
theorem dX5_init_25 : decode cX5_init 25 = .ok (.putfield 18, 3) := by decide +kernel
theorem dX5_init_28 : decode cX5_init 28 = .ok (.return_, 1) := by decide +kernel
theorem dX6_init_0 : decode cX6_init 0 = .ok (.aload_n 0, 1) := by decide +kernel
theorem dX6_init_1 : decode cX6_init 1 = .ok (.invokespecial 3, 3) := by decide +kernel
theorem dX6_init_4 : decode cX6_init 4 = .ok (.aload_n 0, 1) := by decide +kernel
theorem dX6_init_5 : decode cX6_init 5 = .ok (.bipush 60, 2) := by decide +kernel
theorem dX6_init_7 : decode cX6_init 7 = .ok (.newarray .long, 2) := by decide +kernel
theorem dX6_init_9 : decode cX6_init 9 = .ok (.putfield 9, 3) := by decide +kernel
theorem dX6_init_12 : decode cX6_init 12 = .ok (.aload_n 0, 1) := by decide +kernel
theorem dX6_init_13 : decode cX6_init 13 = .ok (.iconst (-1), 1) := by decide +kernel
theorem dX6_init_14 : decode cX6_init 14 = .ok (.putfield 15, 3) := by decide +kernel
theorem dX6_init_17 : decode cX6_init 17 = .ok (.return_, 1) := by decide +kernel
theorem dX7_init_0 : decode cX7_init 0 = .ok (.aload_n 0, 1) := by decide +kernel
theorem dX7_init_1 : decode cX7_init 1 = .ok (.invokespecial 3, 3) := by decide +kernel
theorem dX7_init_4 : decode cX7_init 4 = .ok (.aload_n 0, 1) := by decide +kernel
theorem dX7_init_5 : decode cX7_init 5 = .ok (.aload_n 1, 1) := by decide +kernel
theorem dX7_init_6 : decode cX7_init 6 = .ok (.putfield 9, 3) := by decide +kernel
theorem dX7_init_9 : decode cX7_init 9 = .ok (.aload_n 0, 1) := by decide +kernel
theorem dX7_init_10 : decode cX7_init 10 = .ok (.aload_n 2, 1) := by decide +kernel
theorem dX7_init_11 : decode cX7_init 11 = .ok (.putfield 15, 3) := by decide +kernel
theorem dX7_init_14 : decode cX7_init 14 = .ok (.return_, 1) := by decide +kernel
theorem dX8_init_0 : decode cX8_init 0 = .ok (.aload_n 0, 1) := by decide +kernel
theorem dX8_init_1 : decode cX8_init 1 = .ok (.invokespecial 3, 3) := by decide +kernel
theorem dX8_init_4 : decode cX8_init 4 = .ok (.aload_n 0, 1) := by decide +kernel
theorem dX8_init_5 : decode cX8_init 5 = .ok (.sipush 1600, 3) := by decide +kernel
theorem dX8_init_8 : decode cX8_init 8 = .ok (.newarray .byte, 2) := by decide +kernel
theorem dX8_init_10 : decode cX8_init 10 = .ok (.putfield 9, 3) := by decide +kernel
theorem dX8_init_13 : decode cX8_init 13 = .ok (.return_, 1) := by decide +kernel
theorem dX9_init_0 : decode cX9_init 0 = .ok (.aload_n 0, 1) := by decide +kernel
theorem dX9_init_1 : decode cX9_init 1 = .ok (.invokespecial 3, 3) := by decide +kernel
theorem dX9_init_4 : decode cX9_init 4 = .ok (.aload_n 0, 1) := by decide +kernel
theorem dX9_init_5 : decode cX9_init 5 = .ok (.bipush 9, 2) := by decide +kernel
theorem dX9_init_7 : decode cX9_init 7 = .ok (.newarray .int, 2) := by decide +kernel
theorem dX9_init_9 : decode cX9_init 9 = .ok (.putfield 9, 3) := by decide +kernel
theorem dX9_init_12 : decode cX9_init 12 = .ok (.aload_n 0, 1) := by decide +kernel
theorem dX9_init_13 : decode cX9_init 13 = .ok (.bipush 60, 2) := by decide +kernel
theorem dX9_init_15 : decode cX9_init 15 = .ok (.newarray .int, 2) := by decide +kernel
theorem dX9_init_17 : decode cX9_init 17 = .ok (.putfield 15, 3) := by decide +kernel
theorem dX9_init_20 : decode cX9_init 20 = .ok (.aload_n 0, 1) := by decide +kernel
theorem dX9_init_21 : decode cX9_init 21 = .ok (.bipush 60, 2) := by decide +kernel
theorem dX9_init_23 : decode cX9_init 23 = .ok (.newarray .int, 2) := by decide +kernel
theorem dX9_init_25 : decode cX9_init 25 = .ok (.putfield 18, 3) := by decide +kernel
theorem dX9_init_28 : decode cX9_init 28 = .ok (.aload_n 0, 1) := by decide +kernel
theorem dX9_init_29 : decode cX9_init 29 = .ok (.sipush 540, 3) := by decide +kernel
theorem dX9_init_32 : decode cX9_init 32 = .ok (.newarray .int, 2) := by decide +kernel
theorem dX9_init_34 : decode cX9_init 34 = .ok (.putfield 21, 3) := by decide +kernel
theorem dX9_init_37 : decode cX9_init 37 = .ok (.return_, 1) := by decide +kernel
theorem m_1000 : Cond.code yX11_least cX11_least 2 (some .int) ∈ TB := tb_m 1000 (by decide +kernel) (by decide +kernel)
theorem m_1001 : Cond.methodLink RL 133 yX11_round ∈ TB := tb_m 1001 (by decide +kernel) (by decide +kernel)
theorem m_1002 : Cond.instanceMethod yX11_round ∈ TB := tb_m 1002 (by decide +kernel) (by decide +kernel)
theorem m_1003 : Cond.selects RX11 yX11_round yX11_round ∈ TB := tb_m 1003 (by decide +kernel) (by decide +kernel)
theorem m_1004 : Cond.code yX11_round cX11_round 2 (some .int) ∈ TB := tb_m 1004 (by decide +kernel) (by decide +kernel)
theorem m_1013 : Cond.methodLink RL 137 yX11_dumb ∈ TB := tb_m 1013 (by decide +kernel) (by decide +kernel)
theorem m_1014 : Cond.instanceMethod yX11_dumb ∈ TB := tb_m 1014 (by decide +kernel) (by decide +kernel)
theorem m_1015 : Cond.selects RX11 yX11_dumb yX11_dumb ∈ TB := tb_m 1015 (by decide +kernel) (by decide +kernel)
theorem m_1016 : Cond.code yX11_dumb cX11_dumb 1 (some .int) ∈ TB := tb_m 1016 (by decide +kernel) (by decide +kernel)
theorem m_1021 : Cond.methodLink RL 141 yX11_cost ∈ TB := tb_m 1021 (by decide +kernel) (by decide +kernel)
theorem m_1022 : Cond.instanceMethod yX11_cost ∈ TB := tb_m 1022 (by decide +kernel) (by decide +kernel)
theorem m_1023 : Cond.selects RX11 yX11_cost yX11_cost ∈ TB := tb_m 1023 (by decide +kernel) (by decide +kernel)
theorem m_1024 : Cond.code yX11_cost cX11_cost 2 (some .int) ∈ TB := tb_m 1024 (by decide +kernel) (by decide +kernel)
theorem m_1029 : Cond.methodLink RL 145 yX11_costs ∈ TB := tb_m 1029 (by decide +kernel) (by decide +kernel)
theorem m_1030 : Cond.instanceMethod yX11_costs ∈ TB := tb_m 1030 (by decide +kernel) (by decide +kernel)
theorem m_1031 : Cond.selects RX11 yX11_costs yX11_costs ∈ TB := tb_m 1031 (by decide +kernel) (by decide +kernel)
theorem m_1032 : Cond.code yX11_costs cX11_costs 1 (some .int) ∈ TB := tb_m 1032 (by decide +kernel) (by decide +kernel)
theorem m_1039 : Cond.methodLink RL 149 yX11_by ∈ TB := tb_m 1039 (by decide +kernel) (by decide +kernel)
theorem m_1040 : Cond.instanceMethod yX11_by ∈ TB := tb_m 1040 (by decide +kernel) (by decide +kernel)
theorem m_1041 : Cond.selects RX11 yX11_by yX11_by ∈ TB := tb_m 1041 (by decide +kernel) (by decide +kernel)
theorem m_1042 : Cond.code yX11_by cX11_by 2 (some .int) ∈ TB := tb_m 1042 (by decide +kernel) (by decide +kernel)
theorem m_1046 : Cond.methodLink RL 153 yX11_cheapest ∈ TB := tb_m 1046 (by decide +kernel) (by decide +kernel)
theorem m_1047 : Cond.instanceMethod yX11_cheapest ∈ TB := tb_m 1047 (by decide +kernel) (by decide +kernel)
theorem m_1048 : Cond.selects RX11 yX11_cheapest yX11_cheapest ∈ TB := tb_m 1048 (by decide +kernel) (by decide +kernel)
theorem m_1049 : Cond.code yX11_cheapest cX11_cheapest 2 (some .int) ∈ TB := tb_m 1049 (by decide +kernel) (by decide +kernel)
theorem m_1057 : Cond.methodLink RL 157 yX11_cover ∈ TB := tb_m 1057 (by decide +kernel) (by decide +kernel)
theorem m_1058 : Cond.instanceMethod yX11_cover ∈ TB := tb_m 1058 (by decide +kernel) (by decide +kernel)
theorem m_1059 : Cond.selects RX11 yX11_cover yX11_cover ∈ TB := tb_m 1059 (by decide +kernel) (by decide +kernel)
theorem m_1060 : Cond.code yX11_cover cX11_cover 3 (some .int) ∈ TB := tb_m 1060 (by decide +kernel) (by decide +kernel)
theorem m_1071 : Cond.methodLink RL 161 yX11_covers ∈ TB := tb_m 1071 (by decide +kernel) (by decide +kernel)
theorem m_1072 : Cond.instanceMethod yX11_covers ∈ TB := tb_m 1072 (by decide +kernel) (by decide +kernel)
theorem m_1073 : Cond.selects RX11 yX11_covers yX11_covers ∈ TB := tb_m 1073 (by decide +kernel) (by decide +kernel)
theorem m_1074 : Cond.code yX11_covers cX11_covers 2 (some .int) ∈ TB := tb_m 1074 (by decide +kernel) (by decide +kernel)
theorem m_1075 : Cond.methodLink RL 165 yX11_house ∈ TB := tb_m 1075 (by decide +kernel) (by decide +kernel)
theorem m_1076 : Cond.instanceMethod yX11_house ∈ TB := tb_m 1076 (by decide +kernel) (by decide +kernel)
theorem m_1077 : Cond.selects RX11 yX11_house yX11_house ∈ TB := tb_m 1077 (by decide +kernel) (by decide +kernel)
theorem m_1078 : Cond.code yX11_house cX11_house 1 (some .int) ∈ TB := tb_m 1078 (by decide +kernel) (by decide +kernel)
theorem m_1087 : Cond.methodLink RL 169 yX11_housed ∈ TB := tb_m 1087 (by decide +kernel) (by decide +kernel)
theorem m_1088 : Cond.instanceMethod yX11_housed ∈ TB := tb_m 1088 (by decide +kernel) (by decide +kernel)
theorem m_1089 : Cond.selects RX11 yX11_housed yX11_housed ∈ TB := tb_m 1089 (by decide +kernel) (by decide +kernel)
theorem m_1090 : Cond.code yX11_housed cX11_housed 1 (some .int) ∈ TB := tb_m 1090 (by decide +kernel) (by decide +kernel)
theorem m_1091 : Cond.methodLink RL 173 yX11_feint ∈ TB := tb_m 1091 (by decide +kernel) (by decide +kernel)
theorem m_1092 : Cond.instanceMethod yX11_feint ∈ TB := tb_m 1092 (by decide +kernel) (by decide +kernel)
theorem m_1093 : Cond.selects RX11 yX11_feint yX11_feint ∈ TB := tb_m 1093 (by decide +kernel) (by decide +kernel)
theorem m_1094 : Cond.code yX11_feint cX11_feint 2 (some .int) ∈ TB := tb_m 1094 (by decide +kernel) (by decide +kernel)
theorem m_1103 : Cond.methodLink RL 177 yX11_gains ∈ TB := tb_m 1103 (by decide +kernel) (by decide +kernel)
theorem m_1104 : Cond.instanceMethod yX11_gains ∈ TB := tb_m 1104 (by decide +kernel) (by decide +kernel)
theorem m_1105 : Cond.selects RX11 yX11_gains yX11_gains ∈ TB := tb_m 1105 (by decide +kernel) (by decide +kernel)
theorem m_1106 : Cond.code yX11_gains cX11_gains 2 (some .int) ∈ TB := tb_m 1106 (by decide +kernel) (by decide +kernel)
theorem m_1107 : Cond.methodLink RL 181 yX11_restless ∈ TB := tb_m 1107 (by decide +kernel) (by decide +kernel)
theorem m_1108 : Cond.instanceMethod yX11_restless ∈ TB := tb_m 1108 (by decide +kernel) (by decide +kernel)
theorem m_1109 : Cond.selects RX11 yX11_restless yX11_restless ∈ TB := tb_m 1109 (by decide +kernel) (by decide +kernel)
theorem m_1110 : Cond.code yX11_restless cX11_restless 3 (some .int) ∈ TB := tb_m 1110 (by decide +kernel) (by decide +kernel)
theorem m_1111 : Cond.methodLink RL 185 yX11_seats ∈ TB := tb_m 1111 (by decide +kernel) (by decide +kernel)
theorem m_1112 : Cond.instanceMethod yX11_seats ∈ TB := tb_m 1112 (by decide +kernel) (by decide +kernel)
theorem m_1113 : Cond.selects RX11 yX11_seats yX11_seats ∈ TB := tb_m 1113 (by decide +kernel) (by decide +kernel)
theorem m_1114 : Cond.code yX11_seats cX11_seats 2 (some .int) ∈ TB := tb_m 1114 (by decide +kernel) (by decide +kernel)
theorem m_1123 : Cond.methodLink RL 189 yX11_majority ∈ TB := tb_m 1123 (by decide +kernel) (by decide +kernel)
theorem m_1124 : Cond.instanceMethod yX11_majority ∈ TB := tb_m 1124 (by decide +kernel) (by decide +kernel)
theorem m_1125 : Cond.selects RX11 yX11_majority yX11_majority ∈ TB := tb_m 1125 (by decide +kernel) (by decide +kernel)
theorem m_1126 : Cond.code yX11_majority cX11_majority 2 (some .int) ∈ TB := tb_m 1126 (by decide +kernel) (by decide +kernel)
theorem m_1132 : Cond.methodLink RL 193 yX11_share ∈ TB := tb_m 1132 (by decide +kernel) (by decide +kernel)
theorem m_1133 : Cond.instanceMethod yX11_share ∈ TB := tb_m 1133 (by decide +kernel) (by decide +kernel)
theorem m_1134 : Cond.selects RX11 yX11_share yX11_share ∈ TB := tb_m 1134 (by decide +kernel) (by decide +kernel)
theorem m_1135 : Cond.code yX11_share cX11_share 4 (some .int) ∈ TB := tb_m 1135 (by decide +kernel) (by decide +kernel)
theorem m_1147 : Cond.methodLink RL 197 yX11_coalition ∈ TB := tb_m 1147 (by decide +kernel) (by decide +kernel)
theorem m_1148 : Cond.instanceMethod yX11_coalition ∈ TB := tb_m 1148 (by decide +kernel) (by decide +kernel)
theorem m_1149 : Cond.selects RX11 yX11_coalition yX11_coalition ∈ TB := tb_m 1149 (by decide +kernel) (by decide +kernel)
theorem m_1150 : Cond.code yX11_coalition cX11_coalition 1 (some .int) ∈ TB := tb_m 1150 (by decide +kernel) (by decide +kernel)
theorem m_1155 : Cond.methodLink RL 201 yX11_breaks ∈ TB := tb_m 1155 (by decide +kernel) (by decide +kernel)
theorem m_1156 : Cond.instanceMethod yX11_breaks ∈ TB := tb_m 1156 (by decide +kernel) (by decide +kernel)
theorem m_1157 : Cond.selects RX11 yX11_breaks yX11_breaks ∈ TB := tb_m 1157 (by decide +kernel) (by decide +kernel)
theorem m_1158 : Cond.code yX11_breaks cX11_breaks 2 (some .int) ∈ TB := tb_m 1158 (by decide +kernel) (by decide +kernel)
theorem m_1163 : Cond.methodLink RL 205 yX11_lists ∈ TB := tb_m 1163 (by decide +kernel) (by decide +kernel)
theorem m_1164 : Cond.instanceMethod yX11_lists ∈ TB := tb_m 1164 (by decide +kernel) (by decide +kernel)
theorem m_1165 : Cond.selects RX11 yX11_lists yX11_lists ∈ TB := tb_m 1165 (by decide +kernel) (by decide +kernel)
theorem m_1166 : Cond.code yX11_lists cX11_lists 3 (some .int) ∈ TB := tb_m 1166 (by decide +kernel) (by decide +kernel)
theorem m_1178 : Cond.methodLink RL 209 yX11_rigged ∈ TB := tb_m 1178 (by decide +kernel) (by decide +kernel)
theorem m_1179 : Cond.instanceMethod yX11_rigged ∈ TB := tb_m 1179 (by decide +kernel) (by decide +kernel)
theorem m_1180 : Cond.selects RX11 yX11_rigged yX11_rigged ∈ TB := tb_m 1180 (by decide +kernel) (by decide +kernel)
theorem m_1181 : Cond.code yX11_rigged cX11_rigged 2 (some .int) ∈ TB := tb_m 1181 (by decide +kernel) (by decide +kernel)
theorem m_1204 : Cond.methodLink RL 213 yX11_put ∈ TB := tb_m 1204 (by decide +kernel) (by decide +kernel)
theorem m_1205 : Cond.instanceMethod yX11_put ∈ TB := tb_m 1205 (by decide +kernel) (by decide +kernel)
theorem m_1206 : Cond.selects RX11 yX11_put yX11_put ∈ TB := tb_m 1206 (by decide +kernel) (by decide +kernel)
theorem m_1207 : Cond.code yX11_put cX11_put 3 (some .int) ∈ TB := tb_m 1207 (by decide +kernel) (by decide +kernel)
theorem m_1212 : Cond.methodLink RL 217 yX11_speech ∈ TB := tb_m 1212 (by decide +kernel) (by decide +kernel)
theorem m_1213 : Cond.instanceMethod yX11_speech ∈ TB := tb_m 1213 (by decide +kernel) (by decide +kernel)
theorem m_1214 : Cond.selects RX11 yX11_speech yX11_speech ∈ TB := tb_m 1214 (by decide +kernel) (by decide +kernel)
theorem m_1215 : Cond.code yX11_speech cX11_speech 3 (some .int) ∈ TB := tb_m 1215 (by decide +kernel) (by decide +kernel)
theorem m_1239 : Cond.methodLink RL 221 yX11_fits ∈ TB := tb_m 1239 (by decide +kernel) (by decide +kernel)
theorem m_1240 : Cond.instanceMethod yX11_fits ∈ TB := tb_m 1240 (by decide +kernel) (by decide +kernel)
theorem m_1241 : Cond.selects RX11 yX11_fits yX11_fits ∈ TB := tb_m 1241 (by decide +kernel) (by decide +kernel)
theorem m_1242 : Cond.code yX11_fits cX11_fits 3 (some .int) ∈ TB := tb_m 1242 (by decide +kernel) (by decide +kernel)
theorem m_1249 : Cond.methodLink RL 225 yX11_sure ∈ TB := tb_m 1249 (by decide +kernel) (by decide +kernel)
theorem m_1250 : Cond.instanceMethod yX11_sure ∈ TB := tb_m 1250 (by decide +kernel) (by decide +kernel)
theorem m_1251 : Cond.selects RX11 yX11_sure yX11_sure ∈ TB := tb_m 1251 (by decide +kernel) (by decide +kernel)
theorem m_1252 : Cond.code yX11_sure cX11_sure 4 (some .int) ∈ TB := tb_m 1252 (by decide +kernel) (by decide +kernel)
theorem m_1253 : Cond.methodLink RL 229 yX11_stand ∈ TB := tb_m 1253 (by decide +kernel) (by decide +kernel)
theorem m_1254 : Cond.instanceMethod yX11_stand ∈ TB := tb_m 1254 (by decide +kernel) (by decide +kernel)
theorem m_1255 : Cond.selects RX11 yX11_stand yX11_stand ∈ TB := tb_m 1255 (by decide +kernel) (by decide +kernel)
theorem m_1256 : Cond.code yX11_stand cX11_stand 4 (some .int) ∈ TB := tb_m 1256 (by decide +kernel) (by decide +kernel)
theorem m_1257 : Cond.methodLink RL 233 yX11_need ∈ TB := tb_m 1257 (by decide +kernel) (by decide +kernel)
theorem m_1258 : Cond.instanceMethod yX11_need ∈ TB := tb_m 1258 (by decide +kernel) (by decide +kernel)
theorem m_1259 : Cond.selects RX11 yX11_need yX11_need ∈ TB := tb_m 1259 (by decide +kernel) (by decide +kernel)
theorem m_1260 : Cond.code yX11_need cX11_need 4 (some .int) ∈ TB := tb_m 1260 (by decide +kernel) (by decide +kernel)
theorem m_1261 : Cond.methodLink RL 237 yX11_bill ∈ TB := tb_m 1261 (by decide +kernel) (by decide +kernel)
theorem m_1262 : Cond.instanceMethod yX11_bill ∈ TB := tb_m 1262 (by decide +kernel) (by decide +kernel)
theorem m_1263 : Cond.selects RX11 yX11_bill yX11_bill ∈ TB := tb_m 1263 (by decide +kernel) (by decide +kernel)
theorem m_1264 : Cond.code yX11_bill cX11_bill 4 (some .int) ∈ TB := tb_m 1264 (by decide +kernel) (by decide +kernel)
theorem m_1265 : Cond.methodLink RL 241 yX11_drawn ∈ TB := tb_m 1265 (by decide +kernel) (by decide +kernel)
theorem m_1266 : Cond.instanceMethod yX11_drawn ∈ TB := tb_m 1266 (by decide +kernel) (by decide +kernel)
theorem m_1267 : Cond.selects RX11 yX11_drawn yX11_drawn ∈ TB := tb_m 1267 (by decide +kernel) (by decide +kernel)
theorem m_1268 : Cond.code yX11_drawn cX11_drawn 3 (some .int) ∈ TB := tb_m 1268 (by decide +kernel) (by decide +kernel)
theorem m_1286 : Cond.methodLink RL 245 yX11_years ∈ TB := tb_m 1286 (by decide +kernel) (by decide +kernel)
theorem m_1287 : Cond.instanceMethod yX11_years ∈ TB := tb_m 1287 (by decide +kernel) (by decide +kernel)
theorem m_1288 : Cond.selects RX11 yX11_years yX11_years ∈ TB := tb_m 1288 (by decide +kernel) (by decide +kernel)
theorem m_1289 : Cond.code yX11_years cX11_years 6 (some .int) ∈ TB := tb_m 1289 (by decide +kernel) (by decide +kernel)
theorem m_1290 : Cond.methodLink RL 250 yX11_count ∈ TB := tb_m 1290 (by decide +kernel) (by decide +kernel)
theorem m_1291 : Cond.instanceMethod yX11_count ∈ TB := tb_m 1291 (by decide +kernel) (by decide +kernel)
theorem m_1292 : Cond.selects RX11 yX11_count yX11_count ∈ TB := tb_m 1292 (by decide +kernel) (by decide +kernel)
theorem m_1293 : Cond.code yX11_count cX11_count 2 (some .int) ∈ TB := tb_m 1293 (by decide +kernel) (by decide +kernel)
theorem m_1298 : Cond.methodLink RL 254 yX11_image ∈ TB := tb_m 1298 (by decide +kernel) (by decide +kernel)
theorem m_1299 : Cond.instanceMethod yX11_image ∈ TB := tb_m 1299 (by decide +kernel) (by decide +kernel)
theorem m_1300 : Cond.selects RX11 yX11_image yX11_image ∈ TB := tb_m 1300 (by decide +kernel) (by decide +kernel)
theorem m_1301 : Cond.code yX11_image cX11_image 2 (some .int) ∈ TB := tb_m 1301 (by decide +kernel) (by decide +kernel)
theorem m_1302 : Cond.methodLink RL 258 yX11_back ∈ TB := tb_m 1302 (by decide +kernel) (by decide +kernel)
theorem m_1303 : Cond.instanceMethod yX11_back ∈ TB := tb_m 1303 (by decide +kernel) (by decide +kernel)
theorem m_1304 : Cond.selects RX11 yX11_back yX11_back ∈ TB := tb_m 1304 (by decide +kernel) (by decide +kernel)
theorem m_1305 : Cond.code yX11_back cX11_back 2 (some .int) ∈ TB := tb_m 1305 (by decide +kernel) (by decide +kernel)
theorem m_1306 : Cond.methodLink RL 262 yX11_row ∈ TB := tb_m 1306 (by decide +kernel) (by decide +kernel)
theorem m_1307 : Cond.instanceMethod yX11_row ∈ TB := tb_m 1307 (by decide +kernel) (by decide +kernel)
theorem m_1308 : Cond.selects RX11 yX11_row yX11_row ∈ TB := tb_m 1308 (by decide +kernel) (by decide +kernel)
theorem m_1309 : Cond.code yX11_row cX11_row 4 (some .int) ∈ TB := tb_m 1309 (by decide +kernel) (by decide +kernel)
theorem m_1317 : Cond.methodLink RL 268 yX11_write ∈ TB := tb_m 1317 (by decide +kernel) (by decide +kernel)
theorem m_1318 : Cond.instanceMethod yX11_write ∈ TB := tb_m 1318 (by decide +kernel) (by decide +kernel)
theorem m_1319 : Cond.selects RX11 yX11_write yX11_write ∈ TB := tb_m 1319 (by decide +kernel) (by decide +kernel)
theorem m_1320 : Cond.code yX11_write cX11_write 5 (some .int) ∈ TB := tb_m 1320 (by decide +kernel) (by decide +kernel)
theorem m_1329 : Cond.methodLink RL 273 yX11_paste ∈ TB := tb_m 1329 (by decide +kernel) (by decide +kernel)
theorem m_1330 : Cond.instanceMethod yX11_paste ∈ TB := tb_m 1330 (by decide +kernel) (by decide +kernel)
theorem m_1331 : Cond.selects RX11 yX11_paste yX11_paste ∈ TB := tb_m 1331 (by decide +kernel) (by decide +kernel)
theorem m_1332 : Cond.code yX11_paste cX11_paste 8 (some .int) ∈ TB := tb_m 1332 (by decide +kernel) (by decide +kernel)
theorem m_1338 : Cond.classLink RL 10 RX12 ∈ TB := tb_m 1338 (by decide +kernel) (by decide +kernel)
theorem m_1339 : Cond.instantiable RX12 40 ∈ TB := tb_m 1339 (by decide +kernel) (by decide +kernel)
theorem m_1340 : Cond.methodLink RL 12 yX12_init ∈ TB := tb_m 1340 (by decide +kernel) (by decide +kernel)
theorem m_1341 : Cond.instanceMethod yX12_init ∈ TB := tb_m 1341 (by decide +kernel) (by decide +kernel)
theorem m_1342 : Cond.code yX12_init cX12_init 1 none ∈ TB := tb_m 1342 (by decide +kernel) (by decide +kernel)
theorem m_1343 : Cond.methodLink RX12 3 objectInit ∈ TB := tb_m 1343 (by decide +kernel) (by decide +kernel)
theorem m_1464 : Cond.methodLink RL 257 yX12_image ∈ TB := tb_m 1464 (by decide +kernel) (by decide +kernel)
theorem m_1465 : Cond.instanceMethod yX12_image ∈ TB := tb_m 1465 (by decide +kernel) (by decide +kernel)
theorem m_1466 : Cond.selects RX12 yX12_image yX12_image ∈ TB := tb_m 1466 (by decide +kernel) (by decide +kernel)
theorem m_1467 : Cond.code yX12_image cX12_image 3 (some .int) ∈ TB := tb_m 1467 (by decide +kernel) (by decide +kernel)
theorem m_1472 : Cond.methodLink RL 261 yX12_back ∈ TB := tb_m 1472 (by decide +kernel) (by decide +kernel)
theorem m_1473 : Cond.instanceMethod yX12_back ∈ TB := tb_m 1473 (by decide +kernel) (by decide +kernel)
theorem m_1474 : Cond.selects RX12 yX12_back yX12_back ∈ TB := tb_m 1474 (by decide +kernel) (by decide +kernel)
theorem m_1475 : Cond.code yX12_back cX12_back 3 (some .int) ∈ TB := tb_m 1475 (by decide +kernel) (by decide +kernel)
theorem m_1476 : Cond.methodLink RL 17 yX12_feed ∈ TB := tb_m 1476 (by decide +kernel) (by decide +kernel)
theorem m_1477 : Cond.instanceMethod yX12_feed ∈ TB := tb_m 1477 (by decide +kernel) (by decide +kernel)
theorem m_1478 : Cond.selects RX12 yX12_feed yX12_feed ∈ TB := tb_m 1478 (by decide +kernel) (by decide +kernel)
theorem m_1479 : Cond.code yX12_feed cX12_feed 7 (some .int) ∈ TB := tb_m 1479 (by decide +kernel) (by decide +kernel)
theorem m_1480 : Cond.methodLink RL 22 yX12_end ∈ TB := tb_m 1480 (by decide +kernel) (by decide +kernel)
theorem m_1481 : Cond.instanceMethod yX12_end ∈ TB := tb_m 1481 (by decide +kernel) (by decide +kernel)
theorem m_1482 : Cond.selects RX12 yX12_end yX12_end ∈ TB := tb_m 1482 (by decide +kernel) (by decide +kernel)
theorem m_1483 : Cond.code yX12_end cX12_end 2 (some .int) ∈ TB := tb_m 1483 (by decide +kernel) (by decide +kernel)
theorem m_1484 : Cond.methodLink RL 31 yX12_fault ∈ TB := tb_m 1484 (by decide +kernel) (by decide +kernel)
theorem m_1485 : Cond.instanceMethod yX12_fault ∈ TB := tb_m 1485 (by decide +kernel) (by decide +kernel)
theorem m_1486 : Cond.selects RX12 yX12_fault yX12_fault ∈ TB := tb_m 1486 (by decide +kernel) (by decide +kernel)
theorem m_1487 : Cond.code yX12_fault cX12_fault 2 (some .int) ∈ TB := tb_m 1487 (by decide +kernel) (by decide +kernel)
theorem m_1488 : Cond.methodLink RL 27 yX12_chamber ∈ TB := tb_m 1488 (by decide +kernel) (by decide +kernel)
theorem m_1489 : Cond.instanceMethod yX12_chamber ∈ TB := tb_m 1489 (by decide +kernel) (by decide +kernel)
theorem m_1490 : Cond.selects RX12 yX12_chamber yX12_chamber ∈ TB := tb_m 1490 (by decide +kernel) (by decide +kernel)
theorem m_1491 : Cond.code yX12_chamber cX12_chamber 2 (some .int) ∈ TB := tb_m 1491 (by decide +kernel) (by decide +kernel)
theorem m_1603 : Cond.methodLink RL 36 yX12_word ∈ TB := tb_m 1603 (by decide +kernel) (by decide +kernel)
theorem m_1604 : Cond.instanceMethod yX12_word ∈ TB := tb_m 1604 (by decide +kernel) (by decide +kernel)
theorem m_1605 : Cond.selects RX12 yX12_word yX12_word ∈ TB := tb_m 1605 (by decide +kernel) (by decide +kernel)
theorem m_1606 : Cond.code yX12_word cX12_word 3 (some .int) ∈ TB := tb_m 1606 (by decide +kernel) (by decide +kernel)
theorem m_1619 : Cond.methodLink RL 40 yX12_speaker ∈ TB := tb_m 1619 (by decide +kernel) (by decide +kernel)
theorem m_1620 : Cond.instanceMethod yX12_speaker ∈ TB := tb_m 1620 (by decide +kernel) (by decide +kernel)
theorem m_1621 : Cond.selects RX12 yX12_speaker yX12_speaker ∈ TB := tb_m 1621 (by decide +kernel) (by decide +kernel)
theorem m_1622 : Cond.code yX12_speaker cX12_speaker 3 (some .int) ∈ TB := tb_m 1622 (by decide +kernel) (by decide +kernel)
theorem m_1632 : Cond.methodLink RL 44 yX12_district ∈ TB := tb_m 1632 (by decide +kernel) (by decide +kernel)
theorem m_1633 : Cond.instanceMethod yX12_district ∈ TB := tb_m 1633 (by decide +kernel) (by decide +kernel)
theorem m_1634 : Cond.selects RX12 yX12_district yX12_district ∈ TB := tb_m 1634 (by decide +kernel) (by decide +kernel)
theorem m_1635 : Cond.code yX12_district cX12_district 3 (some .int) ∈ TB := tb_m 1635 (by decide +kernel) (by decide +kernel)
theorem m_1660 : Cond.methodLink RL 48 yX12_likes ∈ TB := tb_m 1660 (by decide +kernel) (by decide +kernel)
theorem m_1661 : Cond.instanceMethod yX12_likes ∈ TB := tb_m 1661 (by decide +kernel) (by decide +kernel)
theorem m_1662 : Cond.selects RX12 yX12_likes yX12_likes ∈ TB := tb_m 1662 (by decide +kernel) (by decide +kernel)
theorem m_1663 : Cond.code yX12_likes cX12_likes 3 (some .int) ∈ TB := tb_m 1663 (by decide +kernel) (by decide +kernel)
theorem m_1671 : Cond.methodLink RL 52 yX12_order ∈ TB := tb_m 1671 (by decide +kernel) (by decide +kernel)
theorem m_1672 : Cond.instanceMethod yX12_order ∈ TB := tb_m 1672 (by decide +kernel) (by decide +kernel)
theorem m_1673 : Cond.selects RX12 yX12_order yX12_order ∈ TB := tb_m 1673 (by decide +kernel) (by decide +kernel)
theorem m_1674 : Cond.code yX12_order cX12_order 6 (some .int) ∈ TB := tb_m 1674 (by decide +kernel) (by decide +kernel)
theorem m_1691 : Cond.methodLink RL 56 yX12_votes ∈ TB := tb_m 1691 (by decide +kernel) (by decide +kernel)
theorem m_1692 : Cond.instanceMethod yX12_votes ∈ TB := tb_m 1692 (by decide +kernel) (by decide +kernel)
theorem m_1693 : Cond.selects RX12 yX12_votes yX12_votes ∈ TB := tb_m 1693 (by decide +kernel) (by decide +kernel)
theorem m_1694 : Cond.code yX12_votes cX12_votes 2 (some .int) ∈ TB := tb_m 1694 (by decide +kernel) (by decide +kernel)
theorem m_1703 : Cond.methodLink RL 60 yX12_abstains ∈ TB := tb_m 1703 (by decide +kernel) (by decide +kernel)
theorem m_1704 : Cond.instanceMethod yX12_abstains ∈ TB := tb_m 1704 (by decide +kernel) (by decide +kernel)
theorem m_1705 : Cond.selects RX12 yX12_abstains yX12_abstains ∈ TB := tb_m 1705 (by decide +kernel) (by decide +kernel)
theorem m_1706 : Cond.code yX12_abstains cX12_abstains 2 (some .int) ∈ TB := tb_m 1706 (by decide +kernel) (by decide +kernel)
theorem m_1707 : Cond.methodLink RL 64 yX12_wins ∈ TB := tb_m 1707 (by decide +kernel) (by decide +kernel)
theorem m_1708 : Cond.instanceMethod yX12_wins ∈ TB := tb_m 1708 (by decide +kernel) (by decide +kernel)
theorem m_1709 : Cond.selects RX12 yX12_wins yX12_wins ∈ TB := tb_m 1709 (by decide +kernel) (by decide +kernel)
theorem m_1710 : Cond.code yX12_wins cX12_wins 3 (some .int) ∈ TB := tb_m 1710 (by decide +kernel) (by decide +kernel)
theorem m_1730 : Cond.methodLink RL 68 yX12_sits ∈ TB := tb_m 1730 (by decide +kernel) (by decide +kernel)
theorem m_1731 : Cond.instanceMethod yX12_sits ∈ TB := tb_m 1731 (by decide +kernel) (by decide +kernel)
theorem m_1732 : Cond.selects RX12 yX12_sits yX12_sits ∈ TB := tb_m 1732 (by decide +kernel) (by decide +kernel)
theorem m_1733 : Cond.code yX12_sits cX12_sits 3 (some .int) ∈ TB := tb_m 1733 (by decide +kernel) (by decide +kernel)
theorem m_1738 : Cond.methodLink RL 72 yX12_with ∈ TB := tb_m 1738 (by decide +kernel) (by decide +kernel)
theorem m_1739 : Cond.instanceMethod yX12_with ∈ TB := tb_m 1739 (by decide +kernel) (by decide +kernel)
theorem m_1740 : Cond.selects RX12 yX12_with yX12_with ∈ TB := tb_m 1740 (by decide +kernel) (by decide +kernel)
theorem m_1741 : Cond.code yX12_with cX12_with 4 (some .int) ∈ TB := tb_m 1741 (by decide +kernel) (by decide +kernel)
theorem m_1742 : Cond.methodLink RL 76 yX12_struck ∈ TB := tb_m 1742 (by decide +kernel) (by decide +kernel)
theorem m_1743 : Cond.instanceMethod yX12_struck ∈ TB := tb_m 1743 (by decide +kernel) (by decide +kernel)
theorem m_1744 : Cond.selects RX12 yX12_struck yX12_struck ∈ TB := tb_m 1744 (by decide +kernel) (by decide +kernel)
theorem m_1745 : Cond.code yX12_struck cX12_struck 3 (some .int) ∈ TB := tb_m 1745 (by decide +kernel) (by decide +kernel)
theorem m_1746 : Cond.methodLink RL 80 yX12_beats ∈ TB := tb_m 1746 (by decide +kernel) (by decide +kernel)
theorem m_1747 : Cond.instanceMethod yX12_beats ∈ TB := tb_m 1747 (by decide +kernel) (by decide +kernel)
theorem m_1748 : Cond.selects RX12 yX12_beats yX12_beats ∈ TB := tb_m 1748 (by decide +kernel) (by decide +kernel)
theorem m_1749 : Cond.code yX12_beats cX12_beats 3 (some .int) ∈ TB := tb_m 1749 (by decide +kernel) (by decide +kernel)
theorem m_1758 : Cond.methodLink RL 84 yX12_best ∈ TB := tb_m 1758 (by decide +kernel) (by decide +kernel)
theorem m_1759 : Cond.instanceMethod yX12_best ∈ TB := tb_m 1759 (by decide +kernel) (by decide +kernel)
theorem m_1760 : Cond.selects RX12 yX12_best yX12_best ∈ TB := tb_m 1760 (by decide +kernel) (by decide +kernel)
theorem m_1761 : Cond.code yX12_best cX12_best 6 (some .int) ∈ TB := tb_m 1761 (by decide +kernel) (by decide +kernel)
theorem m_1762 : Cond.methodLink RL 88 yX12_unlike_ ∈ TB := tb_m 1762 (by decide +kernel) (by decide +kernel)
theorem m_1763 : Cond.instanceMethod yX12_unlike_ ∈ TB := tb_m 1763 (by decide +kernel) (by decide +kernel)
theorem m_1764 : Cond.selects RX12 yX12_unlike_ yX12_unlike_ ∈ TB := tb_m 1764 (by decide +kernel) (by decide +kernel)
theorem m_1765 : Cond.code yX12_unlike_ cX12_unlike_ 5 (some .int) ∈ TB := tb_m 1765 (by decide +kernel) (by decide +kernel)
theorem m_1770 : Cond.methodLink RL 92 yX12_synonyms ∈ TB := tb_m 1770 (by decide +kernel) (by decide +kernel)
theorem m_1771 : Cond.instanceMethod yX12_synonyms ∈ TB := tb_m 1771 (by decide +kernel) (by decide +kernel)
theorem m_1772 : Cond.selects RX12 yX12_synonyms yX12_synonyms ∈ TB := tb_m 1772 (by decide +kernel) (by decide +kernel)
theorem m_1773 : Cond.code yX12_synonyms cX12_synonyms 4 (some .int) ∈ TB := tb_m 1773 (by decide +kernel) (by decide +kernel)
theorem m_1774 : Cond.methodLink RL 96 yX12_spoils ∈ TB := tb_m 1774 (by decide +kernel) (by decide +kernel)
theorem m_1775 : Cond.instanceMethod yX12_spoils ∈ TB := tb_m 1775 (by decide +kernel) (by decide +kernel)
theorem m_1776 : Cond.selects RX12 yX12_spoils yX12_spoils ∈ TB := tb_m 1776 (by decide +kernel) (by decide +kernel)
theorem m_1777 : Cond.code yX12_spoils cX12_spoils 2 (some .int) ∈ TB := tb_m 1777 (by decide +kernel) (by decide +kernel)
theorem m_1782 : Cond.methodLink RL 100 yX12_spoilers ∈ TB := tb_m 1782 (by decide +kernel) (by decide +kernel)
theorem m_1783 : Cond.instanceMethod yX12_spoilers ∈ TB := tb_m 1783 (by decide +kernel) (by decide +kernel)
theorem m_1784 : Cond.selects RX12 yX12_spoilers yX12_spoilers ∈ TB := tb_m 1784 (by decide +kernel) (by decide +kernel)
theorem m_1785 : Cond.code yX12_spoilers cX12_spoilers 5 (some .int) ∈ TB := tb_m 1785 (by decide +kernel) (by decide +kernel)
theorem m_1786 : Cond.methodLink RL 104 yX12_elected ∈ TB := tb_m 1786 (by decide +kernel) (by decide +kernel)
theorem m_1787 : Cond.instanceMethod yX12_elected ∈ TB := tb_m 1787 (by decide +kernel) (by decide +kernel)
theorem m_1788 : Cond.selects RX12 yX12_elected yX12_elected ∈ TB := tb_m 1788 (by decide +kernel) (by decide +kernel)
theorem m_1789 : Cond.code yX12_elected cX12_elected 1 (some .int) ∈ TB := tb_m 1789 (by decide +kernel) (by decide +kernel)
theorem m_1794 : Cond.methodLink RL 108 yX12_sitting ∈ TB := tb_m 1794 (by decide +kernel) (by decide +kernel)
theorem m_1795 : Cond.instanceMethod yX12_sitting ∈ TB := tb_m 1795 (by decide +kernel) (by decide +kernel)
theorem m_1796 : Cond.selects RX12 yX12_sitting yX12_sitting ∈ TB := tb_m 1796 (by decide +kernel) (by decide +kernel)
theorem m_1797 : Cond.code yX12_sitting cX12_sitting 1 (some .int) ∈ TB := tb_m 1797 (by decide +kernel) (by decide +kernel)
theorem m_1798 : Cond.methodLink RL 112 yX12_term ∈ TB := tb_m 1798 (by decide +kernel) (by decide +kernel)
theorem m_1799 : Cond.instanceMethod yX12_term ∈ TB := tb_m 1799 (by decide +kernel) (by decide +kernel)
theorem m_1800 : Cond.selects RX12 yX12_term yX12_term ∈ TB := tb_m 1800 (by decide +kernel) (by decide +kernel)
theorem m_1801 : Cond.code yX12_term cX12_term 3 (some .int) ∈ TB := tb_m 1801 (by decide +kernel) (by decide +kernel)
theorem m_1806 : Cond.methodLink RL 116 yX12_undo ∈ TB := tb_m 1806 (by decide +kernel) (by decide +kernel)
theorem m_1807 : Cond.instanceMethod yX12_undo ∈ TB := tb_m 1807 (by decide +kernel) (by decide +kernel)
theorem m_1808 : Cond.selects RX12 yX12_undo yX12_undo ∈ TB := tb_m 1808 (by decide +kernel) (by decide +kernel)
theorem m_1809 : Cond.code yX12_undo cX12_undo 3 (some .int) ∈ TB := tb_m 1809 (by decide +kernel) (by decide +kernel)
theorem m_1810 : Cond.methodLink RL 120 yX12_led ∈ TB := tb_m 1810 (by decide +kernel) (by decide +kernel)
theorem m_1811 : Cond.instanceMethod yX12_led ∈ TB := tb_m 1811 (by decide +kernel) (by decide +kernel)
theorem m_1812 : Cond.selects RX12 yX12_led yX12_led ∈ TB := tb_m 1812 (by decide +kernel) (by decide +kernel)
theorem m_1813 : Cond.code yX12_led cX12_led 2 (some .int) ∈ TB := tb_m 1813 (by decide +kernel) (by decide +kernel)
theorem m_1814 : Cond.methodLink RL 124 yX12_dies ∈ TB := tb_m 1814 (by decide +kernel) (by decide +kernel)
theorem m_1815 : Cond.instanceMethod yX12_dies ∈ TB := tb_m 1815 (by decide +kernel) (by decide +kernel)
theorem m_1816 : Cond.selects RX12 yX12_dies yX12_dies ∈ TB := tb_m 1816 (by decide +kernel) (by decide +kernel)
theorem m_1817 : Cond.code yX12_dies cX12_dies 5 (some .int) ∈ TB := tb_m 1817 (by decide +kernel) (by decide +kernel)
theorem m_1818 : Cond.methodLink RL 128 yX12_said ∈ TB := tb_m 1818 (by decide +kernel) (by decide +kernel)
theorem m_1819 : Cond.instanceMethod yX12_said ∈ TB := tb_m 1819 (by decide +kernel) (by decide +kernel)
theorem m_1820 : Cond.selects RX12 yX12_said yX12_said ∈ TB := tb_m 1820 (by decide +kernel) (by decide +kernel)
theorem m_1821 : Cond.code yX12_said cX12_said 2 (some .int) ∈ TB := tb_m 1821 (by decide +kernel) (by decide +kernel)
theorem m_1838 : Cond.methodLink RL 132 yX12_least ∈ TB := tb_m 1838 (by decide +kernel) (by decide +kernel)
theorem m_1839 : Cond.instanceMethod yX12_least ∈ TB := tb_m 1839 (by decide +kernel) (by decide +kernel)
theorem m_1840 : Cond.selects RX12 yX12_least yX12_least ∈ TB := tb_m 1840 (by decide +kernel) (by decide +kernel)
theorem m_1841 : Cond.code yX12_least cX12_least 2 (some .int) ∈ TB := tb_m 1841 (by decide +kernel) (by decide +kernel)
theorem m_1842 : Cond.methodLink RL 136 yX12_round ∈ TB := tb_m 1842 (by decide +kernel) (by decide +kernel)
theorem m_1843 : Cond.instanceMethod yX12_round ∈ TB := tb_m 1843 (by decide +kernel) (by decide +kernel)
theorem m_1844 : Cond.selects RX12 yX12_round yX12_round ∈ TB := tb_m 1844 (by decide +kernel) (by decide +kernel)
theorem m_1845 : Cond.code yX12_round cX12_round 3 (some .int) ∈ TB := tb_m 1845 (by decide +kernel) (by decide +kernel)
theorem m_1846 : Cond.methodLink RL 140 yX12_dumb ∈ TB := tb_m 1846 (by decide +kernel) (by decide +kernel)
theorem m_1847 : Cond.instanceMethod yX12_dumb ∈ TB := tb_m 1847 (by decide +kernel) (by decide +kernel)
theorem m_1848 : Cond.selects RX12 yX12_dumb yX12_dumb ∈ TB := tb_m 1848 (by decide +kernel) (by decide +kernel)
theorem m_1849 : Cond.code yX12_dumb cX12_dumb 1 (some .int) ∈ TB := tb_m 1849 (by decide +kernel) (by decide +kernel)
theorem m_1854 : Cond.methodLink RL 144 yX12_cost ∈ TB := tb_m 1854 (by decide +kernel) (by decide +kernel)
theorem m_1855 : Cond.instanceMethod yX12_cost ∈ TB := tb_m 1855 (by decide +kernel) (by decide +kernel)
theorem m_1856 : Cond.selects RX12 yX12_cost yX12_cost ∈ TB := tb_m 1856 (by decide +kernel) (by decide +kernel)
theorem m_1857 : Cond.code yX12_cost cX12_cost 2 (some .int) ∈ TB := tb_m 1857 (by decide +kernel) (by decide +kernel)
theorem m_1862 : Cond.methodLink RL 148 yX12_costs ∈ TB := tb_m 1862 (by decide +kernel) (by decide +kernel)
theorem m_1863 : Cond.instanceMethod yX12_costs ∈ TB := tb_m 1863 (by decide +kernel) (by decide +kernel)
theorem m_1864 : Cond.selects RX12 yX12_costs yX12_costs ∈ TB := tb_m 1864 (by decide +kernel) (by decide +kernel)
theorem m_1865 : Cond.code yX12_costs cX12_costs 1 (some .int) ∈ TB := tb_m 1865 (by decide +kernel) (by decide +kernel)
theorem m_1870 : Cond.methodLink RL 152 yX12_by ∈ TB := tb_m 1870 (by decide +kernel) (by decide +kernel)
theorem m_1871 : Cond.instanceMethod yX12_by ∈ TB := tb_m 1871 (by decide +kernel) (by decide +kernel)
theorem m_1872 : Cond.selects RX12 yX12_by yX12_by ∈ TB := tb_m 1872 (by decide +kernel) (by decide +kernel)
theorem m_1873 : Cond.code yX12_by cX12_by 2 (some .int) ∈ TB := tb_m 1873 (by decide +kernel) (by decide +kernel)
theorem m_1874 : Cond.methodLink RL 156 yX12_cheapest ∈ TB := tb_m 1874 (by decide +kernel) (by decide +kernel)
theorem m_1875 : Cond.instanceMethod yX12_cheapest ∈ TB := tb_m 1875 (by decide +kernel) (by decide +kernel)
theorem m_1876 : Cond.selects RX12 yX12_cheapest yX12_cheapest ∈ TB := tb_m 1876 (by decide +kernel) (by decide +kernel)
theorem m_1877 : Cond.code yX12_cheapest cX12_cheapest 8 (some .int) ∈ TB := tb_m 1877 (by decide +kernel) (by decide +kernel)
theorem m_1878 : Cond.methodLink RL 160 yX12_cover ∈ TB := tb_m 1878 (by decide +kernel) (by decide +kernel)
theorem m_1879 : Cond.instanceMethod yX12_cover ∈ TB := tb_m 1879 (by decide +kernel) (by decide +kernel)
theorem m_1880 : Cond.selects RX12 yX12_cover yX12_cover ∈ TB := tb_m 1880 (by decide +kernel) (by decide +kernel)
theorem m_1881 : Cond.code yX12_cover cX12_cover 3 (some .int) ∈ TB := tb_m 1881 (by decide +kernel) (by decide +kernel)
theorem m_1890 : Cond.methodLink RL 164 yX12_covers ∈ TB := tb_m 1890 (by decide +kernel) (by decide +kernel)
theorem m_1891 : Cond.instanceMethod yX12_covers ∈ TB := tb_m 1891 (by decide +kernel) (by decide +kernel)
theorem m_1892 : Cond.selects RX12 yX12_covers yX12_covers ∈ TB := tb_m 1892 (by decide +kernel) (by decide +kernel)
theorem m_1893 : Cond.code yX12_covers cX12_covers 2 (some .int) ∈ TB := tb_m 1893 (by decide +kernel) (by decide +kernel)
theorem m_1894 : Cond.methodLink RL 168 yX12_house ∈ TB := tb_m 1894 (by decide +kernel) (by decide +kernel)
theorem m_1895 : Cond.instanceMethod yX12_house ∈ TB := tb_m 1895 (by decide +kernel) (by decide +kernel)
theorem m_1896 : Cond.selects RX12 yX12_house yX12_house ∈ TB := tb_m 1896 (by decide +kernel) (by decide +kernel)
theorem m_1897 : Cond.code yX12_house cX12_house 1 (some .int) ∈ TB := tb_m 1897 (by decide +kernel) (by decide +kernel)
theorem m_1906 : Cond.methodLink RL 172 yX12_housed ∈ TB := tb_m 1906 (by decide +kernel) (by decide +kernel)
theorem m_1907 : Cond.instanceMethod yX12_housed ∈ TB := tb_m 1907 (by decide +kernel) (by decide +kernel)
theorem m_1908 : Cond.selects RX12 yX12_housed yX12_housed ∈ TB := tb_m 1908 (by decide +kernel) (by decide +kernel)
theorem m_1909 : Cond.code yX12_housed cX12_housed 1 (some .int) ∈ TB := tb_m 1909 (by decide +kernel) (by decide +kernel)
theorem m_1910 : Cond.methodLink RL 176 yX12_feint ∈ TB := tb_m 1910 (by decide +kernel) (by decide +kernel)
theorem m_1911 : Cond.instanceMethod yX12_feint ∈ TB := tb_m 1911 (by decide +kernel) (by decide +kernel)
theorem m_1912 : Cond.selects RX12 yX12_feint yX12_feint ∈ TB := tb_m 1912 (by decide +kernel) (by decide +kernel)
theorem m_1913 : Cond.code yX12_feint cX12_feint 2 (some .int) ∈ TB := tb_m 1913 (by decide +kernel) (by decide +kernel)
theorem m_1922 : Cond.methodLink RL 180 yX12_gains ∈ TB := tb_m 1922 (by decide +kernel) (by decide +kernel)
theorem m_1923 : Cond.instanceMethod yX12_gains ∈ TB := tb_m 1923 (by decide +kernel) (by decide +kernel)
theorem m_1924 : Cond.selects RX12 yX12_gains yX12_gains ∈ TB := tb_m 1924 (by decide +kernel) (by decide +kernel)
theorem m_1925 : Cond.code yX12_gains cX12_gains 2 (some .int) ∈ TB := tb_m 1925 (by decide +kernel) (by decide +kernel)
theorem m_1926 : Cond.methodLink RL 184 yX12_restless ∈ TB := tb_m 1926 (by decide +kernel) (by decide +kernel)
theorem m_1927 : Cond.instanceMethod yX12_restless ∈ TB := tb_m 1927 (by decide +kernel) (by decide +kernel)
theorem m_1928 : Cond.selects RX12 yX12_restless yX12_restless ∈ TB := tb_m 1928 (by decide +kernel) (by decide +kernel)
theorem m_1929 : Cond.code yX12_restless cX12_restless 3 (some .int) ∈ TB := tb_m 1929 (by decide +kernel) (by decide +kernel)
theorem m_1930 : Cond.methodLink RL 188 yX12_seats ∈ TB := tb_m 1930 (by decide +kernel) (by decide +kernel)
theorem m_1931 : Cond.instanceMethod yX12_seats ∈ TB := tb_m 1931 (by decide +kernel) (by decide +kernel)
theorem m_1932 : Cond.selects RX12 yX12_seats yX12_seats ∈ TB := tb_m 1932 (by decide +kernel) (by decide +kernel)
theorem m_1933 : Cond.code yX12_seats cX12_seats 2 (some .int) ∈ TB := tb_m 1933 (by decide +kernel) (by decide +kernel)
theorem m_1941 : Cond.methodLink RL 192 yX12_majority ∈ TB := tb_m 1941 (by decide +kernel) (by decide +kernel)
theorem m_1942 : Cond.instanceMethod yX12_majority ∈ TB := tb_m 1942 (by decide +kernel) (by decide +kernel)
theorem m_1943 : Cond.selects RX12 yX12_majority yX12_majority ∈ TB := tb_m 1943 (by decide +kernel) (by decide +kernel)
theorem m_1944 : Cond.code yX12_majority cX12_majority 2 (some .int) ∈ TB := tb_m 1944 (by decide +kernel) (by decide +kernel)
theorem m_1954 : Cond.methodLink RL 196 yX12_share ∈ TB := tb_m 1954 (by decide +kernel) (by decide +kernel)
theorem m_1955 : Cond.instanceMethod yX12_share ∈ TB := tb_m 1955 (by decide +kernel) (by decide +kernel)
theorem m_1956 : Cond.selects RX12 yX12_share yX12_share ∈ TB := tb_m 1956 (by decide +kernel) (by decide +kernel)
theorem m_1957 : Cond.code yX12_share cX12_share 5 (some .int) ∈ TB := tb_m 1957 (by decide +kernel) (by decide +kernel)
theorem m_1964 : Cond.methodLink RL 200 yX12_coalition ∈ TB := tb_m 1964 (by decide +kernel) (by decide +kernel)
theorem m_1965 : Cond.instanceMethod yX12_coalition ∈ TB := tb_m 1965 (by decide +kernel) (by decide +kernel)
theorem m_1966 : Cond.selects RX12 yX12_coalition yX12_coalition ∈ TB := tb_m 1966 (by decide +kernel) (by decide +kernel)
theorem m_1967 : Cond.code yX12_coalition cX12_coalition 3 (some .int) ∈ TB := tb_m 1967 (by decide +kernel) (by decide +kernel)
theorem m_1968 : Cond.methodLink RL 204 yX12_breaks ∈ TB := tb_m 1968 (by decide +kernel) (by decide +kernel)
theorem m_1969 : Cond.instanceMethod yX12_breaks ∈ TB := tb_m 1969 (by decide +kernel) (by decide +kernel)
theorem m_1970 : Cond.selects RX12 yX12_breaks yX12_breaks ∈ TB := tb_m 1970 (by decide +kernel) (by decide +kernel)
theorem m_1971 : Cond.code yX12_breaks cX12_breaks 4 (some .int) ∈ TB := tb_m 1971 (by decide +kernel) (by decide +kernel)
theorem m_1972 : Cond.methodLink RL 208 yX12_lists ∈ TB := tb_m 1972 (by decide +kernel) (by decide +kernel)
theorem m_1973 : Cond.instanceMethod yX12_lists ∈ TB := tb_m 1973 (by decide +kernel) (by decide +kernel)
theorem m_1974 : Cond.selects RX12 yX12_lists yX12_lists ∈ TB := tb_m 1974 (by decide +kernel) (by decide +kernel)
theorem m_1975 : Cond.code yX12_lists cX12_lists 7 (some .int) ∈ TB := tb_m 1975 (by decide +kernel) (by decide +kernel)
theorem m_1977 : Cond.methodLink RL 212 yX12_rigged ∈ TB := tb_m 1977 (by decide +kernel) (by decide +kernel)
theorem m_1978 : Cond.instanceMethod yX12_rigged ∈ TB := tb_m 1978 (by decide +kernel) (by decide +kernel)
theorem m_1979 : Cond.selects RX12 yX12_rigged yX12_rigged ∈ TB := tb_m 1979 (by decide +kernel) (by decide +kernel)
theorem m_1980 : Cond.code yX12_rigged cX12_rigged 2 (some .int) ∈ TB := tb_m 1980 (by decide +kernel) (by decide +kernel)
theorem m_1989 : Cond.methodLink RL 216 yX12_put ∈ TB := tb_m 1989 (by decide +kernel) (by decide +kernel)
theorem m_1990 : Cond.instanceMethod yX12_put ∈ TB := tb_m 1990 (by decide +kernel) (by decide +kernel)
theorem m_1991 : Cond.selects RX12 yX12_put yX12_put ∈ TB := tb_m 1991 (by decide +kernel) (by decide +kernel)
theorem m_1992 : Cond.code yX12_put cX12_put 3 (some .int) ∈ TB := tb_m 1992 (by decide +kernel) (by decide +kernel)
theorem m_1993 : Cond.methodLink RL 220 yX12_speech ∈ TB := tb_m 1993 (by decide +kernel) (by decide +kernel)
theorem m_1994 : Cond.instanceMethod yX12_speech ∈ TB := tb_m 1994 (by decide +kernel) (by decide +kernel)
theorem m_1995 : Cond.selects RX12 yX12_speech yX12_speech ∈ TB := tb_m 1995 (by decide +kernel) (by decide +kernel)
theorem m_1996 : Cond.code yX12_speech cX12_speech 3 (some .int) ∈ TB := tb_m 1996 (by decide +kernel) (by decide +kernel)
theorem m_2013 : Cond.methodLink RL 224 yX12_fits ∈ TB := tb_m 2013 (by decide +kernel) (by decide +kernel)
theorem m_2014 : Cond.instanceMethod yX12_fits ∈ TB := tb_m 2014 (by decide +kernel) (by decide +kernel)
theorem m_2015 : Cond.selects RX12 yX12_fits yX12_fits ∈ TB := tb_m 2015 (by decide +kernel) (by decide +kernel)
theorem m_2016 : Cond.code yX12_fits cX12_fits 3 (some .int) ∈ TB := tb_m 2016 (by decide +kernel) (by decide +kernel)
theorem m_2021 : Cond.methodLink RL 228 yX12_sure ∈ TB := tb_m 2021 (by decide +kernel) (by decide +kernel)
theorem m_2022 : Cond.instanceMethod yX12_sure ∈ TB := tb_m 2022 (by decide +kernel) (by decide +kernel)
theorem m_2023 : Cond.selects RX12 yX12_sure yX12_sure ∈ TB := tb_m 2023 (by decide +kernel) (by decide +kernel)
theorem m_2024 : Cond.code yX12_sure cX12_sure 4 (some .int) ∈ TB := tb_m 2024 (by decide +kernel) (by decide +kernel)
theorem m_2025 : Cond.methodLink RL 232 yX12_stand ∈ TB := tb_m 2025 (by decide +kernel) (by decide +kernel)
theorem m_2026 : Cond.instanceMethod yX12_stand ∈ TB := tb_m 2026 (by decide +kernel) (by decide +kernel)
theorem m_2027 : Cond.selects RX12 yX12_stand yX12_stand ∈ TB := tb_m 2027 (by decide +kernel) (by decide +kernel)
theorem m_2028 : Cond.code yX12_stand cX12_stand 4 (some .int) ∈ TB := tb_m 2028 (by decide +kernel) (by decide +kernel)
theorem m_2029 : Cond.methodLink RL 236 yX12_need ∈ TB := tb_m 2029 (by decide +kernel) (by decide +kernel)
theorem m_2030 : Cond.instanceMethod yX12_need ∈ TB := tb_m 2030 (by decide +kernel) (by decide +kernel)
theorem m_2031 : Cond.selects RX12 yX12_need yX12_need ∈ TB := tb_m 2031 (by decide +kernel) (by decide +kernel)
theorem m_2032 : Cond.code yX12_need cX12_need 4 (some .int) ∈ TB := tb_m 2032 (by decide +kernel) (by decide +kernel)
theorem m_2033 : Cond.methodLink RL 240 yX12_bill ∈ TB := tb_m 2033 (by decide +kernel) (by decide +kernel)
theorem m_2034 : Cond.instanceMethod yX12_bill ∈ TB := tb_m 2034 (by decide +kernel) (by decide +kernel)
theorem m_2035 : Cond.selects RX12 yX12_bill yX12_bill ∈ TB := tb_m 2035 (by decide +kernel) (by decide +kernel)
theorem m_2036 : Cond.code yX12_bill cX12_bill 4 (some .int) ∈ TB := tb_m 2036 (by decide +kernel) (by decide +kernel)
theorem m_2038 : Cond.methodLink RL 244 yX12_drawn ∈ TB := tb_m 2038 (by decide +kernel) (by decide +kernel)
theorem m_2039 : Cond.instanceMethod yX12_drawn ∈ TB := tb_m 2039 (by decide +kernel) (by decide +kernel)
theorem m_2040 : Cond.selects RX12 yX12_drawn yX12_drawn ∈ TB := tb_m 2040 (by decide +kernel) (by decide +kernel)
theorem m_2041 : Cond.code yX12_drawn cX12_drawn 3 (some .int) ∈ TB := tb_m 2041 (by decide +kernel) (by decide +kernel)
theorem m_2054 : Cond.methodLink RL 249 yX12_years ∈ TB := tb_m 2054 (by decide +kernel) (by decide +kernel)
theorem m_2055 : Cond.instanceMethod yX12_years ∈ TB := tb_m 2055 (by decide +kernel) (by decide +kernel)
theorem m_2056 : Cond.selects RX12 yX12_years yX12_years ∈ TB := tb_m 2056 (by decide +kernel) (by decide +kernel)
theorem m_2057 : Cond.code yX12_years cX12_years 6 (some .int) ∈ TB := tb_m 2057 (by decide +kernel) (by decide +kernel)
theorem m_2058 : Cond.methodLink RL 253 yX12_count_ ∈ TB := tb_m 2058 (by decide +kernel) (by decide +kernel)
theorem m_2059 : Cond.instanceMethod yX12_count_ ∈ TB := tb_m 2059 (by decide +kernel) (by decide +kernel)
theorem m_2060 : Cond.selects RX12 yX12_count_ yX12_count_ ∈ TB := tb_m 2060 (by decide +kernel) (by decide +kernel)
theorem m_2061 : Cond.code yX12_count_ cX12_count_ 4 (some .int) ∈ TB := tb_m 2061 (by decide +kernel) (by decide +kernel)
theorem m_2062 : Cond.methodLink RL 265 yX12_row ∈ TB := tb_m 2062 (by decide +kernel) (by decide +kernel)
theorem m_2063 : Cond.instanceMethod yX12_row ∈ TB := tb_m 2063 (by decide +kernel) (by decide +kernel)
theorem m_2064 : Cond.selects RX12 yX12_row yX12_row ∈ TB := tb_m 2064 (by decide +kernel) (by decide +kernel)
theorem m_2065 : Cond.code yX12_row cX12_row 5 (some .int) ∈ TB := tb_m 2065 (by decide +kernel) (by decide +kernel)
theorem m_2066 : Cond.methodLink RL 272 yX12_write ∈ TB := tb_m 2066 (by decide +kernel) (by decide +kernel)
theorem m_2067 : Cond.instanceMethod yX12_write ∈ TB := tb_m 2067 (by decide +kernel) (by decide +kernel)
theorem m_2068 : Cond.selects RX12 yX12_write yX12_write ∈ TB := tb_m 2068 (by decide +kernel) (by decide +kernel)
theorem m_2069 : Cond.code yX12_write cX12_write 5 (some .int) ∈ TB := tb_m 2069 (by decide +kernel) (by decide +kernel)
theorem m_2073 : Cond.methodLink RL 276 yX12_paste ∈ TB := tb_m 2073 (by decide +kernel) (by decide +kernel)
theorem m_2074 : Cond.instanceMethod yX12_paste ∈ TB := tb_m 2074 (by decide +kernel) (by decide +kernel)
theorem m_2075 : Cond.selects RX12 yX12_paste yX12_paste ∈ TB := tb_m 2075 (by decide +kernel) (by decide +kernel)
theorem m_2076 : Cond.code yX12_paste cX12_paste 7 (some .int) ∈ TB := tb_m 2076 (by decide +kernel) (by decide +kernel)
theorem m_2077 : Cond.constantLong RL 266 (4294967295) ∈ TB := tb_m 2077 (by decide +kernel) (by decide +kernel)
theorem m_22 : Cond.classLink RL 7 RX11 ∈ TB := tb_m 22 (by decide +kernel) (by decide +kernel)
theorem m_23 : Cond.instantiable RX11 12 ∈ TB := tb_m 23 (by decide +kernel) (by decide +kernel)
theorem m_233 : Cond.classLink RX11 23 RX4 ∈ TB := tb_m 233 (by decide +kernel) (by decide +kernel)
theorem m_234 : Cond.instantiable RX4 8 ∈ TB := tb_m 234 (by decide +kernel) (by decide +kernel)
theorem m_235 : Cond.methodLink RX11 25 yX4_init ∈ TB := tb_m 235 (by decide +kernel) (by decide +kernel)
theorem m_236 : Cond.instanceMethod yX4_init ∈ TB := tb_m 236 (by decide +kernel) (by decide +kernel)
theorem m_237 : Cond.code yX4_init cX4_init 3 none ∈ TB := tb_m 237 (by decide +kernel) (by decide +kernel)
theorem m_238 : Cond.methodLink RX4 3 objectInit ∈ TB := tb_m 238 (by decide +kernel) (by decide +kernel)
theorem m_24 : Cond.methodLink RL 9 yX11_init ∈ TB := tb_m 24 (by decide +kernel) (by decide +kernel)
theorem m_25 : Cond.instanceMethod yX11_init ∈ TB := tb_m 25 (by decide +kernel) (by decide +kernel)
theorem m_26 : Cond.code yX11_init cX11_init 2 none ∈ TB := tb_m 26 (by decide +kernel) (by decide +kernel)
theorem m_267 : Cond.classLink RX11 39 RX6 ∈ TB := tb_m 267 (by decide +kernel) (by decide +kernel)
theorem m_269 : Cond.classLink RX11 45 RX2 ∈ TB := tb_m 269 (by decide +kernel) (by decide +kernel)
theorem m_27 : Cond.methodLink RX11 1 objectInit ∈ TB := tb_m 27 (by decide +kernel) (by decide +kernel)
theorem m_270 : Cond.instantiable RX2 13 ∈ TB := tb_m 270 (by decide +kernel) (by decide +kernel)
theorem m_271 : Cond.methodLink RX11 47 yX2_init ∈ TB := tb_m 271 (by decide +kernel) (by decide +kernel)
theorem m_272 : Cond.instanceMethod yX2_init ∈ TB := tb_m 272 (by decide +kernel) (by decide +kernel)
theorem m_273 : Cond.code yX2_init cX2_init 2 none ∈ TB := tb_m 273 (by decide +kernel) (by decide +kernel)
theorem m_274 : Cond.methodLink RX2 5 objectInit ∈ TB := tb_m 274 (by decide +kernel) (by decide +kernel)
theorem m_28 : Cond.instanceMethod objectInit ∈ TB := tb_m 28 (by decide +kernel) (by decide +kernel)
theorem m_29 : Cond.code objectInit ⟨#[0xb1]⟩ 1 none ∈ TB := tb_m 29 (by decide +kernel) (by decide +kernel)
theorem m_30 : Cond.classLink RX11 7 RX8 ∈ TB := tb_m 30 (by decide +kernel) (by decide +kernel)
theorem m_31 : Cond.instantiable RX8 2 ∈ TB := tb_m 31 (by decide +kernel) (by decide +kernel)
theorem m_325 : Cond.classLink RX11 54 RX10 ∈ TB := tb_m 325 (by decide +kernel) (by decide +kernel)
theorem m_326 : Cond.instantiable RX10 3 ∈ TB := tb_m 326 (by decide +kernel) (by decide +kernel)
theorem m_327 : Cond.methodLink RX11 56 yX10_init ∈ TB := tb_m 327 (by decide +kernel) (by decide +kernel)
theorem m_328 : Cond.instanceMethod yX10_init ∈ TB := tb_m 328 (by decide +kernel) (by decide +kernel)
theorem m_329 : Cond.code yX10_init cX10_init 2 none ∈ TB := tb_m 329 (by decide +kernel) (by decide +kernel)
theorem m_33 : Cond.instanceMethod yX8_init ∈ TB := tb_m 33 (by decide +kernel) (by decide +kernel)
theorem m_330 : Cond.methodLink RX10 3 objectInit ∈ TB := tb_m 330 (by decide +kernel) (by decide +kernel)
theorem m_34 : Cond.code yX8_init cX8_init 1 none ∈ TB := tb_m 34 (by decide +kernel) (by decide +kernel)
theorem m_343 : Cond.classLink RX11 61 RX3 ∈ TB := tb_m 343 (by decide +kernel) (by decide +kernel)
theorem m_344 : Cond.instantiable RX3 3 ∈ TB := tb_m 344 (by decide +kernel) (by decide +kernel)
theorem m_345 : Cond.methodLink RX11 63 yX3_init ∈ TB := tb_m 345 (by decide +kernel) (by decide +kernel)
theorem m_346 : Cond.instanceMethod yX3_init ∈ TB := tb_m 346 (by decide +kernel) (by decide +kernel)
theorem m_347 : Cond.code yX3_init cX3_init 2 none ∈ TB := tb_m 347 (by decide +kernel) (by decide +kernel)
theorem m_348 : Cond.methodLink RX3 3 objectInit ∈ TB := tb_m 348 (by decide +kernel) (by decide +kernel)
theorem m_35 : Cond.methodLink RX8 3 objectInit ∈ TB := tb_m 35 (by decide +kernel) (by decide +kernel)
theorem m_360 : Cond.classLink RX11 68 RX1 ∈ TB := tb_m 360 (by decide +kernel) (by decide +kernel)
theorem m_361 : Cond.instantiable RX1 6 ∈ TB := tb_m 361 (by decide +kernel) (by decide +kernel)
theorem m_362 : Cond.methodLink RX11 70 yX1_init ∈ TB := tb_m 362 (by decide +kernel) (by decide +kernel)
theorem m_363 : Cond.instanceMethod yX1_init ∈ TB := tb_m 363 (by decide +kernel) (by decide +kernel)
theorem m_364 : Cond.code yX1_init cX1_init 3 none ∈ TB := tb_m 364 (by decide +kernel) (by decide +kernel)
theorem m_365 : Cond.methodLink RX1 3 objectInit ∈ TB := tb_m 365 (by decide +kernel) (by decide +kernel)
theorem m_386 : Cond.arrayClass .boolean ∈ TB := tb_m 386 (by decide +kernel) (by decide +kernel)
theorem m_387 : Cond.classLink RX11 77 RX7 ∈ TB := tb_m 387 (by decide +kernel) (by decide +kernel)
theorem m_388 : Cond.instantiable RX7 5 ∈ TB := tb_m 388 (by decide +kernel) (by decide +kernel)
theorem m_389 : Cond.methodLink RX11 79 yX7_init ∈ TB := tb_m 389 (by decide +kernel) (by decide +kernel)
theorem m_390 : Cond.instanceMethod yX7_init ∈ TB := tb_m 390 (by decide +kernel) (by decide +kernel)
theorem m_391 : Cond.code yX7_init cX7_init 3 none ∈ TB := tb_m 391 (by decide +kernel) (by decide +kernel)
theorem m_392 : Cond.methodLink RX7 3 objectInit ∈ TB := tb_m 392 (by decide +kernel) (by decide +kernel)
theorem m_412 : Cond.instantiable RX6 3 ∈ TB := tb_m 412 (by decide +kernel) (by decide +kernel)
theorem m_414 : Cond.instanceMethod yX6_init ∈ TB := tb_m 414 (by decide +kernel) (by decide +kernel)
theorem m_415 : Cond.code yX6_init cX6_init 1 none ∈ TB := tb_m 415 (by decide +kernel) (by decide +kernel)
theorem m_416 : Cond.methodLink RX6 3 objectInit ∈ TB := tb_m 416 (by decide +kernel) (by decide +kernel)
theorem m_432 : Cond.arrayClass .long ∈ TB := tb_m 432 (by decide +kernel) (by decide +kernel)
theorem m_45 : Cond.arrayClass .byte ∈ TB := tb_m 45 (by decide +kernel) (by decide +kernel)
theorem m_46 : Cond.classLink RX11 16 RX0 ∈ TB := tb_m 46 (by decide +kernel) (by decide +kernel)
theorem m_47 : Cond.instantiable RX0 19 ∈ TB := tb_m 47 (by decide +kernel) (by decide +kernel)
theorem m_470 : Cond.methodLink RL 13 yX11_feed ∈ TB := tb_m 470 (by decide +kernel) (by decide +kernel)
theorem m_471 : Cond.instanceMethod yX11_feed ∈ TB := tb_m 471 (by decide +kernel) (by decide +kernel)
theorem m_472 : Cond.selects RX11 yX11_feed yX11_feed ∈ TB := tb_m 472 (by decide +kernel) (by decide +kernel)
theorem m_473 : Cond.code yX11_feed cX11_feed 6 (some .int) ∈ TB := tb_m 473 (by decide +kernel) (by decide +kernel)
theorem m_482 : Cond.methodLink RL 18 yX11_end ∈ TB := tb_m 482 (by decide +kernel) (by decide +kernel)
theorem m_483 : Cond.instanceMethod yX11_end ∈ TB := tb_m 483 (by decide +kernel) (by decide +kernel)
theorem m_484 : Cond.selects RX11 yX11_end yX11_end ∈ TB := tb_m 484 (by decide +kernel) (by decide +kernel)
theorem m_485 : Cond.code yX11_end cX11_end 2 (some .int) ∈ TB := tb_m 485 (by decide +kernel) (by decide +kernel)
theorem m_486 : Cond.methodLink RL 23 yX11_chamber ∈ TB := tb_m 486 (by decide +kernel) (by decide +kernel)
theorem m_487 : Cond.instanceMethod yX11_chamber ∈ TB := tb_m 487 (by decide +kernel) (by decide +kernel)
theorem m_488 : Cond.selects RX11 yX11_chamber yX11_chamber ∈ TB := tb_m 488 (by decide +kernel) (by decide +kernel)
theorem m_489 : Cond.code yX11_chamber cX11_chamber 1 (some .int) ∈ TB := tb_m 489 (by decide +kernel) (by decide +kernel)
theorem m_49 : Cond.instanceMethod yX0_init ∈ TB := tb_m 49 (by decide +kernel) (by decide +kernel)
theorem m_50 : Cond.code yX0_init cX0_init 1 none ∈ TB := tb_m 50 (by decide +kernel) (by decide +kernel)
theorem m_51 : Cond.methodLink RX0 3 objectInit ∈ TB := tb_m 51 (by decide +kernel) (by decide +kernel)
theorem m_52 : Cond.classLink RX0 39 RX5 ∈ TB := tb_m 52 (by decide +kernel) (by decide +kernel)
theorem m_53 : Cond.instantiable RX5 4 ∈ TB := tb_m 53 (by decide +kernel) (by decide +kernel)
theorem m_55 : Cond.instanceMethod yX5_init ∈ TB := tb_m 55 (by decide +kernel) (by decide +kernel)
theorem m_56 : Cond.code yX5_init cX5_init 1 none ∈ TB := tb_m 56 (by decide +kernel) (by decide +kernel)
theorem m_57 : Cond.methodLink RX5 3 objectInit ∈ TB := tb_m 57 (by decide +kernel) (by decide +kernel)
theorem m_694 : Cond.methodLink RL 28 yX11_fault ∈ TB := tb_m 694 (by decide +kernel) (by decide +kernel)
theorem m_695 : Cond.instanceMethod yX11_fault ∈ TB := tb_m 695 (by decide +kernel) (by decide +kernel)
theorem m_696 : Cond.selects RX11 yX11_fault yX11_fault ∈ TB := tb_m 696 (by decide +kernel) (by decide +kernel)
theorem m_697 : Cond.code yX11_fault cX11_fault 2 (some .int) ∈ TB := tb_m 697 (by decide +kernel) (by decide +kernel)
theorem m_698 : Cond.methodLink RL 32 yX11_word ∈ TB := tb_m 698 (by decide +kernel) (by decide +kernel)
theorem m_699 : Cond.instanceMethod yX11_word ∈ TB := tb_m 699 (by decide +kernel) (by decide +kernel)
theorem m_700 : Cond.selects RX11 yX11_word yX11_word ∈ TB := tb_m 700 (by decide +kernel) (by decide +kernel)
theorem m_701 : Cond.code yX11_word cX11_word 3 (some .int) ∈ TB := tb_m 701 (by decide +kernel) (by decide +kernel)
theorem m_709 : Cond.methodLink RL 37 yX11_speaker ∈ TB := tb_m 709 (by decide +kernel) (by decide +kernel)
theorem m_710 : Cond.instanceMethod yX11_speaker ∈ TB := tb_m 710 (by decide +kernel) (by decide +kernel)
theorem m_711 : Cond.selects RX11 yX11_speaker yX11_speaker ∈ TB := tb_m 711 (by decide +kernel) (by decide +kernel)
theorem m_712 : Cond.code yX11_speaker cX11_speaker 3 (some .int) ∈ TB := tb_m 712 (by decide +kernel) (by decide +kernel)
theorem m_717 : Cond.methodLink RL 41 yX11_district ∈ TB := tb_m 717 (by decide +kernel) (by decide +kernel)
theorem m_718 : Cond.instanceMethod yX11_district ∈ TB := tb_m 718 (by decide +kernel) (by decide +kernel)
theorem m_719 : Cond.selects RX11 yX11_district yX11_district ∈ TB := tb_m 719 (by decide +kernel) (by decide +kernel)
theorem m_720 : Cond.code yX11_district cX11_district 3 (some .int) ∈ TB := tb_m 720 (by decide +kernel) (by decide +kernel)
theorem m_742 : Cond.methodLink RL 45 yX11_likes ∈ TB := tb_m 742 (by decide +kernel) (by decide +kernel)
theorem m_743 : Cond.instanceMethod yX11_likes ∈ TB := tb_m 743 (by decide +kernel) (by decide +kernel)
theorem m_744 : Cond.selects RX11 yX11_likes yX11_likes ∈ TB := tb_m 744 (by decide +kernel) (by decide +kernel)
theorem m_745 : Cond.code yX11_likes cX11_likes 3 (some .int) ∈ TB := tb_m 745 (by decide +kernel) (by decide +kernel)
theorem m_758 : Cond.methodLink RL 49 yX11_order ∈ TB := tb_m 758 (by decide +kernel) (by decide +kernel)
theorem m_759 : Cond.instanceMethod yX11_order ∈ TB := tb_m 759 (by decide +kernel) (by decide +kernel)
theorem m_760 : Cond.selects RX11 yX11_order yX11_order ∈ TB := tb_m 760 (by decide +kernel) (by decide +kernel)
theorem m_761 : Cond.code yX11_order cX11_order 3 (some .int) ∈ TB := tb_m 761 (by decide +kernel) (by decide +kernel)
theorem m_78 : Cond.arrayClass .int ∈ TB := tb_m 78 (by decide +kernel) (by decide +kernel)
theorem m_79 : Cond.classLink RX0 46 RX9 ∈ TB := tb_m 79 (by decide +kernel) (by decide +kernel)
theorem m_791 : Cond.methodLink RL 53 yX11_votes ∈ TB := tb_m 791 (by decide +kernel) (by decide +kernel)
theorem m_792 : Cond.instanceMethod yX11_votes ∈ TB := tb_m 792 (by decide +kernel) (by decide +kernel)
theorem m_793 : Cond.selects RX11 yX11_votes yX11_votes ∈ TB := tb_m 793 (by decide +kernel) (by decide +kernel)
theorem m_794 : Cond.code yX11_votes cX11_votes 2 (some .int) ∈ TB := tb_m 794 (by decide +kernel) (by decide +kernel)
theorem m_80 : Cond.instantiable RX9 7 ∈ TB := tb_m 80 (by decide +kernel) (by decide +kernel)
theorem m_800 : Cond.methodLink RL 57 yX11_abstains ∈ TB := tb_m 800 (by decide +kernel) (by decide +kernel)
theorem m_801 : Cond.instanceMethod yX11_abstains ∈ TB := tb_m 801 (by decide +kernel) (by decide +kernel)
theorem m_802 : Cond.selects RX11 yX11_abstains yX11_abstains ∈ TB := tb_m 802 (by decide +kernel) (by decide +kernel)
theorem m_803 : Cond.code yX11_abstains cX11_abstains 2 (some .int) ∈ TB := tb_m 803 (by decide +kernel) (by decide +kernel)
theorem m_804 : Cond.methodLink RL 61 yX11_wins ∈ TB := tb_m 804 (by decide +kernel) (by decide +kernel)
theorem m_805 : Cond.instanceMethod yX11_wins ∈ TB := tb_m 805 (by decide +kernel) (by decide +kernel)
theorem m_806 : Cond.selects RX11 yX11_wins yX11_wins ∈ TB := tb_m 806 (by decide +kernel) (by decide +kernel)
theorem m_807 : Cond.code yX11_wins cX11_wins 3 (some .int) ∈ TB := tb_m 807 (by decide +kernel) (by decide +kernel)
theorem m_82 : Cond.instanceMethod yX9_init ∈ TB := tb_m 82 (by decide +kernel) (by decide +kernel)
theorem m_83 : Cond.code yX9_init cX9_init 1 none ∈ TB := tb_m 83 (by decide +kernel) (by decide +kernel)
theorem m_84 : Cond.methodLink RX9 3 objectInit ∈ TB := tb_m 84 (by decide +kernel) (by decide +kernel)
theorem m_841 : Cond.methodLink RL 65 yX11_sits ∈ TB := tb_m 841 (by decide +kernel) (by decide +kernel)
theorem m_842 : Cond.instanceMethod yX11_sits ∈ TB := tb_m 842 (by decide +kernel) (by decide +kernel)
theorem m_843 : Cond.selects RX11 yX11_sits yX11_sits ∈ TB := tb_m 843 (by decide +kernel) (by decide +kernel)
theorem m_844 : Cond.code yX11_sits cX11_sits 3 (some .int) ∈ TB := tb_m 844 (by decide +kernel) (by decide +kernel)
theorem m_855 : Cond.methodLink RL 69 yX11_with ∈ TB := tb_m 855 (by decide +kernel) (by decide +kernel)
theorem m_856 : Cond.instanceMethod yX11_with ∈ TB := tb_m 856 (by decide +kernel) (by decide +kernel)
theorem m_857 : Cond.selects RX11 yX11_with yX11_with ∈ TB := tb_m 857 (by decide +kernel) (by decide +kernel)
theorem m_858 : Cond.code yX11_with cX11_with 3 (some .int) ∈ TB := tb_m 858 (by decide +kernel) (by decide +kernel)
theorem m_859 : Cond.methodLink RL 73 yX11_struck ∈ TB := tb_m 859 (by decide +kernel) (by decide +kernel)
theorem m_860 : Cond.instanceMethod yX11_struck ∈ TB := tb_m 860 (by decide +kernel) (by decide +kernel)
theorem m_861 : Cond.selects RX11 yX11_struck yX11_struck ∈ TB := tb_m 861 (by decide +kernel) (by decide +kernel)
theorem m_862 : Cond.code yX11_struck cX11_struck 3 (some .int) ∈ TB := tb_m 862 (by decide +kernel) (by decide +kernel)
theorem m_867 : Cond.methodLink RL 77 yX11_beats ∈ TB := tb_m 867 (by decide +kernel) (by decide +kernel)
theorem m_868 : Cond.instanceMethod yX11_beats ∈ TB := tb_m 868 (by decide +kernel) (by decide +kernel)
theorem m_869 : Cond.selects RX11 yX11_beats yX11_beats ∈ TB := tb_m 869 (by decide +kernel) (by decide +kernel)
theorem m_870 : Cond.code yX11_beats cX11_beats 3 (some .int) ∈ TB := tb_m 870 (by decide +kernel) (by decide +kernel)
theorem m_875 : Cond.methodLink RL 81 yX11_best ∈ TB := tb_m 875 (by decide +kernel) (by decide +kernel)
theorem m_876 : Cond.instanceMethod yX11_best ∈ TB := tb_m 876 (by decide +kernel) (by decide +kernel)
theorem m_877 : Cond.selects RX11 yX11_best yX11_best ∈ TB := tb_m 877 (by decide +kernel) (by decide +kernel)
theorem m_878 : Cond.code yX11_best cX11_best 2 (some .int) ∈ TB := tb_m 878 (by decide +kernel) (by decide +kernel)
theorem m_888 : Cond.methodLink RL 85 yX11_unlike ∈ TB := tb_m 888 (by decide +kernel) (by decide +kernel)
theorem m_889 : Cond.instanceMethod yX11_unlike ∈ TB := tb_m 889 (by decide +kernel) (by decide +kernel)
theorem m_890 : Cond.selects RX11 yX11_unlike yX11_unlike ∈ TB := tb_m 890 (by decide +kernel) (by decide +kernel)
theorem m_891 : Cond.code yX11_unlike cX11_unlike 5 (some .int) ∈ TB := tb_m 891 (by decide +kernel) (by decide +kernel)
theorem m_896 : Cond.methodLink RL 89 yX11_synonyms ∈ TB := tb_m 896 (by decide +kernel) (by decide +kernel)
theorem m_897 : Cond.instanceMethod yX11_synonyms ∈ TB := tb_m 897 (by decide +kernel) (by decide +kernel)
theorem m_898 : Cond.selects RX11 yX11_synonyms yX11_synonyms ∈ TB := tb_m 898 (by decide +kernel) (by decide +kernel)
theorem m_899 : Cond.code yX11_synonyms cX11_synonyms 5 (some .int) ∈ TB := tb_m 899 (by decide +kernel) (by decide +kernel)
theorem m_900 : Cond.methodLink RL 93 yX11_spoils ∈ TB := tb_m 900 (by decide +kernel) (by decide +kernel)
theorem m_901 : Cond.instanceMethod yX11_spoils ∈ TB := tb_m 901 (by decide +kernel) (by decide +kernel)
theorem m_902 : Cond.selects RX11 yX11_spoils yX11_spoils ∈ TB := tb_m 902 (by decide +kernel) (by decide +kernel)
theorem m_903 : Cond.code yX11_spoils cX11_spoils 2 (some .int) ∈ TB := tb_m 903 (by decide +kernel) (by decide +kernel)
theorem m_908 : Cond.methodLink RL 97 yX11_spoilers ∈ TB := tb_m 908 (by decide +kernel) (by decide +kernel)
theorem m_909 : Cond.instanceMethod yX11_spoilers ∈ TB := tb_m 909 (by decide +kernel) (by decide +kernel)
theorem m_910 : Cond.selects RX11 yX11_spoilers yX11_spoilers ∈ TB := tb_m 910 (by decide +kernel) (by decide +kernel)
theorem m_911 : Cond.code yX11_spoilers cX11_spoilers 1 (some .int) ∈ TB := tb_m 911 (by decide +kernel) (by decide +kernel)
theorem m_918 : Cond.methodLink RL 101 yX11_elected ∈ TB := tb_m 918 (by decide +kernel) (by decide +kernel)
theorem m_919 : Cond.instanceMethod yX11_elected ∈ TB := tb_m 919 (by decide +kernel) (by decide +kernel)
theorem m_920 : Cond.selects RX11 yX11_elected yX11_elected ∈ TB := tb_m 920 (by decide +kernel) (by decide +kernel)
theorem m_921 : Cond.code yX11_elected cX11_elected 1 (some .int) ∈ TB := tb_m 921 (by decide +kernel) (by decide +kernel)
theorem m_926 : Cond.methodLink RL 105 yX11_sitting ∈ TB := tb_m 926 (by decide +kernel) (by decide +kernel)
theorem m_927 : Cond.instanceMethod yX11_sitting ∈ TB := tb_m 927 (by decide +kernel) (by decide +kernel)
theorem m_928 : Cond.selects RX11 yX11_sitting yX11_sitting ∈ TB := tb_m 928 (by decide +kernel) (by decide +kernel)
theorem m_929 : Cond.code yX11_sitting cX11_sitting 1 (some .int) ∈ TB := tb_m 929 (by decide +kernel) (by decide +kernel)
theorem m_930 : Cond.methodLink RL 109 yX11_term ∈ TB := tb_m 930 (by decide +kernel) (by decide +kernel)
theorem m_931 : Cond.instanceMethod yX11_term ∈ TB := tb_m 931 (by decide +kernel) (by decide +kernel)
theorem m_932 : Cond.selects RX11 yX11_term yX11_term ∈ TB := tb_m 932 (by decide +kernel) (by decide +kernel)
theorem m_933 : Cond.code yX11_term cX11_term 1 (some .int) ∈ TB := tb_m 933 (by decide +kernel) (by decide +kernel)
theorem m_940 : Cond.methodLink RL 113 yX11_undo ∈ TB := tb_m 940 (by decide +kernel) (by decide +kernel)
theorem m_941 : Cond.instanceMethod yX11_undo ∈ TB := tb_m 941 (by decide +kernel) (by decide +kernel)
theorem m_942 : Cond.selects RX11 yX11_undo yX11_undo ∈ TB := tb_m 942 (by decide +kernel) (by decide +kernel)
theorem m_943 : Cond.code yX11_undo cX11_undo 1 (some .int) ∈ TB := tb_m 943 (by decide +kernel) (by decide +kernel)
theorem m_948 : Cond.methodLink RL 117 yX11_led ∈ TB := tb_m 948 (by decide +kernel) (by decide +kernel)
theorem m_949 : Cond.instanceMethod yX11_led ∈ TB := tb_m 949 (by decide +kernel) (by decide +kernel)
theorem m_950 : Cond.selects RX11 yX11_led yX11_led ∈ TB := tb_m 950 (by decide +kernel) (by decide +kernel)
theorem m_951 : Cond.code yX11_led cX11_led 2 (some .int) ∈ TB := tb_m 951 (by decide +kernel) (by decide +kernel)
theorem m_952 : Cond.methodLink RL 121 yX11_dies ∈ TB := tb_m 952 (by decide +kernel) (by decide +kernel)
theorem m_953 : Cond.instanceMethod yX11_dies ∈ TB := tb_m 953 (by decide +kernel) (by decide +kernel)
theorem m_954 : Cond.selects RX11 yX11_dies yX11_dies ∈ TB := tb_m 954 (by decide +kernel) (by decide +kernel)
theorem m_955 : Cond.code yX11_dies cX11_dies 1 (some .int) ∈ TB := tb_m 955 (by decide +kernel) (by decide +kernel)
theorem m_964 : Cond.methodLink RL 125 yX11_said ∈ TB := tb_m 964 (by decide +kernel) (by decide +kernel)
theorem m_965 : Cond.instanceMethod yX11_said ∈ TB := tb_m 965 (by decide +kernel) (by decide +kernel)
theorem m_966 : Cond.selects RX11 yX11_said yX11_said ∈ TB := tb_m 966 (by decide +kernel) (by decide +kernel)
theorem m_967 : Cond.code yX11_said cX11_said 2 (some .int) ∈ TB := tb_m 967 (by decide +kernel) (by decide +kernel)
theorem m_997 : Cond.methodLink RL 129 yX11_least ∈ TB := tb_m 997 (by decide +kernel) (by decide +kernel)
theorem m_998 : Cond.instanceMethod yX11_least ∈ TB := tb_m 998 (by decide +kernel) (by decide +kernel)
theorem m_999 : Cond.selects RX11 yX11_least yX11_least ∈ TB := tb_m 999 (by decide +kernel) (by decide +kernel)
theorem n_266 : Cond.arrayOver (.object RX0) ∈ NB := nb_m 266 (by decide +kernel) rfl
theorem n_268 : Cond.arrayOver (.object RX6) ∈ NB := nb_m 268 (by decide +kernel) rfl
theorem n_32 : Cond.methodLinkNest RX11 9 yX8_init "WordSeats" ∈ NB := nb_m 32 (by decide +kernel) rfl
theorem n_413 : Cond.methodLinkNest RX11 86 yX6_init "WordSeats" ∈ NB := nb_m 413 (by decide +kernel) rfl
theorem n_48 : Cond.methodLinkNest RX11 18 yX0_init "WordSeats" ∈ NB := nb_m 48 (by decide +kernel) rfl
theorem n_54 : Cond.methodLinkNest RX0 41 yX5_init "WordSeats" ∈ NB := nb_m 54 (by decide +kernel) rfl
theorem n_81 : Cond.methodLinkNest RX0 48 yX9_init "WordSeats" ∈ NB := nb_m 81 (by decide +kernel) rfl
theorem hd_X0_init : hdT yX0_init 0 := by decide +kernel
theorem hd_X10_init : hdT yX10_init 1 := by decide +kernel
theorem hd_X11_abstains : hdT yX11_abstains 1 := by decide +kernel
theorem hd_X11_back : hdT yX11_back 1 := by decide +kernel
theorem hd_X11_beats : hdT yX11_beats 2 := by decide +kernel
theorem hd_X11_best : hdT yX11_best 1 := by decide +kernel
theorem hd_X11_bill : hdT yX11_bill 2 := by decide +kernel
theorem hd_X11_breaks : hdT yX11_breaks 1 := by decide +kernel
theorem hd_X11_by : hdT yX11_by 1 := by decide +kernel
theorem hd_X11_chamber : hdT yX11_chamber 0 := by decide +kernel
theorem hd_X11_cheapest : hdT yX11_cheapest 1 := by decide +kernel
theorem hd_X11_coalition : hdT yX11_coalition 0 := by decide +kernel
theorem hd_X11_cost : hdT yX11_cost 1 := by decide +kernel
theorem hd_X11_costs : hdT yX11_costs 0 := by decide +kernel
theorem hd_X11_count : hdT yX11_count 1 := by decide +kernel
theorem hd_X11_cover : hdT yX11_cover 1 := by decide +kernel
theorem hd_X11_covers : hdT yX11_covers 1 := by decide +kernel
theorem hd_X11_dies : hdT yX11_dies 0 := by decide +kernel
theorem hd_X11_district : hdT yX11_district 2 := by decide +kernel
theorem hd_X11_drawn : hdT yX11_drawn 2 := by decide +kernel
theorem hd_X11_dumb : hdT yX11_dumb 0 := by decide +kernel
theorem hd_X11_elected : hdT yX11_elected 0 := by decide +kernel
theorem hd_X11_end : hdT yX11_end 1 := by decide +kernel
theorem hd_X11_fault : hdT yX11_fault 1 := by decide +kernel
theorem hd_X11_feed : hdT yX11_feed 5 := by decide +kernel
theorem hd_X11_feint : hdT yX11_feint 1 := by decide +kernel
theorem hd_X11_fits : hdT yX11_fits 1 := by decide +kernel
theorem hd_X11_gains : hdT yX11_gains 1 := by decide +kernel
theorem hd_X11_house : hdT yX11_house 0 := by decide +kernel
theorem hd_X11_housed : hdT yX11_housed 0 := by decide +kernel
theorem hd_X11_image : hdT yX11_image 1 := by decide +kernel
theorem hd_X11_init : hdT yX11_init 0 := by decide +kernel
theorem hd_X11_least : hdT yX11_least 1 := by decide +kernel
theorem hd_X11_led : hdT yX11_led 1 := by decide +kernel
theorem hd_X11_likes : hdT yX11_likes 2 := by decide +kernel
theorem hd_X11_lists : hdT yX11_lists 2 := by decide +kernel
theorem hd_X11_majority : hdT yX11_majority 1 := by decide +kernel
theorem hd_X11_need : hdT yX11_need 2 := by decide +kernel
theorem hd_X11_order : hdT yX11_order 2 := by decide +kernel
theorem hd_X11_paste : hdT yX11_paste 5 := by decide +kernel
theorem hd_X11_put : hdT yX11_put 2 := by decide +kernel
theorem hd_X11_restless : hdT yX11_restless 0 := by decide +kernel
theorem hd_X11_rigged : hdT yX11_rigged 1 := by decide +kernel
theorem hd_X11_round : hdT yX11_round 1 := by decide +kernel
theorem hd_X11_row : hdT yX11_row 3 := by decide +kernel
theorem hd_X11_said : hdT yX11_said 1 := by decide +kernel
theorem hd_X11_seats : hdT yX11_seats 1 := by decide +kernel
theorem hd_X11_share : hdT yX11_share 2 := by decide +kernel
theorem hd_X11_sits : hdT yX11_sits 2 := by decide +kernel
theorem hd_X11_sitting : hdT yX11_sitting 0 := by decide +kernel
theorem hd_X11_speaker : hdT yX11_speaker 2 := by decide +kernel
theorem hd_X11_speech : hdT yX11_speech 1 := by decide +kernel
theorem hd_X11_spoilers : hdT yX11_spoilers 0 := by decide +kernel
theorem hd_X11_spoils : hdT yX11_spoils 1 := by decide +kernel
theorem hd_X11_stand : hdT yX11_stand 2 := by decide +kernel
theorem hd_X11_struck : hdT yX11_struck 2 := by decide +kernel
theorem hd_X11_sure : hdT yX11_sure 2 := by decide +kernel
theorem hd_X11_synonyms : hdT yX11_synonyms 1 := by decide +kernel
theorem hd_X11_term : hdT yX11_term 0 := by decide +kernel
theorem hd_X11_undo : hdT yX11_undo 0 := by decide +kernel
theorem hd_X11_unlike : hdT yX11_unlike 2 := by decide +kernel
theorem hd_X11_votes : hdT yX11_votes 1 := by decide +kernel
theorem hd_X11_wins : hdT yX11_wins 2 := by decide +kernel
theorem hd_X11_with : hdT yX11_with 2 := by decide +kernel
theorem hd_X11_word : hdT yX11_word 2 := by decide +kernel
theorem hd_X11_write : hdT yX11_write 3 := by decide +kernel
theorem hd_X11_years : hdT yX11_years 3 := by decide +kernel
theorem hd_X12_abstains : hdT yX12_abstains 1 := by decide +kernel
theorem hd_X12_back : hdT yX12_back 1 := by decide +kernel
theorem hd_X12_beats : hdT yX12_beats 2 := by decide +kernel
theorem hd_X12_best : hdT yX12_best 1 := by decide +kernel
theorem hd_X12_bill : hdT yX12_bill 2 := by decide +kernel
theorem hd_X12_breaks : hdT yX12_breaks 1 := by decide +kernel
theorem hd_X12_by : hdT yX12_by 1 := by decide +kernel
theorem hd_X12_chamber : hdT yX12_chamber 0 := by decide +kernel
theorem hd_X12_cheapest : hdT yX12_cheapest 1 := by decide +kernel
theorem hd_X12_coalition : hdT yX12_coalition 0 := by decide +kernel
theorem hd_X12_cost : hdT yX12_cost 1 := by decide +kernel
theorem hd_X12_costs : hdT yX12_costs 0 := by decide +kernel
theorem hd_X12_count_ : hdT yX12_count_ 1 := by decide +kernel
theorem hd_X12_cover : hdT yX12_cover 1 := by decide +kernel
theorem hd_X12_covers : hdT yX12_covers 1 := by decide +kernel
theorem hd_X12_dies : hdT yX12_dies 0 := by decide +kernel
theorem hd_X12_district : hdT yX12_district 2 := by decide +kernel
theorem hd_X12_drawn : hdT yX12_drawn 2 := by decide +kernel
theorem hd_X12_dumb : hdT yX12_dumb 0 := by decide +kernel
theorem hd_X12_elected : hdT yX12_elected 0 := by decide +kernel
theorem hd_X12_end : hdT yX12_end 1 := by decide +kernel
theorem hd_X12_fault : hdT yX12_fault 1 := by decide +kernel
theorem hd_X12_feed : hdT yX12_feed 5 := by decide +kernel
theorem hd_X12_feint : hdT yX12_feint 1 := by decide +kernel
theorem hd_X12_fits : hdT yX12_fits 1 := by decide +kernel
theorem hd_X12_gains : hdT yX12_gains 1 := by decide +kernel
theorem hd_X12_house : hdT yX12_house 0 := by decide +kernel
theorem hd_X12_housed : hdT yX12_housed 0 := by decide +kernel
theorem hd_X12_image : hdT yX12_image 1 := by decide +kernel
theorem hd_X12_init : hdT yX12_init 0 := by decide +kernel
theorem hd_X12_least : hdT yX12_least 1 := by decide +kernel
theorem hd_X12_led : hdT yX12_led 1 := by decide +kernel
theorem hd_X12_likes : hdT yX12_likes 2 := by decide +kernel
theorem hd_X12_lists : hdT yX12_lists 2 := by decide +kernel
theorem hd_X12_majority : hdT yX12_majority 1 := by decide +kernel
theorem hd_X12_need : hdT yX12_need 2 := by decide +kernel
theorem hd_X12_order : hdT yX12_order 2 := by decide +kernel
theorem hd_X12_paste : hdT yX12_paste 5 := by decide +kernel
theorem hd_X12_put : hdT yX12_put 2 := by decide +kernel
theorem hd_X12_restless : hdT yX12_restless 0 := by decide +kernel
theorem hd_X12_rigged : hdT yX12_rigged 1 := by decide +kernel
theorem hd_X12_round : hdT yX12_round 1 := by decide +kernel
theorem hd_X12_row : hdT yX12_row 3 := by decide +kernel
theorem hd_X12_said : hdT yX12_said 1 := by decide +kernel
theorem hd_X12_seats : hdT yX12_seats 1 := by decide +kernel
theorem hd_X12_share : hdT yX12_share 2 := by decide +kernel
theorem hd_X12_sits : hdT yX12_sits 2 := by decide +kernel
theorem hd_X12_sitting : hdT yX12_sitting 0 := by decide +kernel
theorem hd_X12_speaker : hdT yX12_speaker 2 := by decide +kernel
theorem hd_X12_speech : hdT yX12_speech 1 := by decide +kernel
theorem hd_X12_spoilers : hdT yX12_spoilers 0 := by decide +kernel
theorem hd_X12_spoils : hdT yX12_spoils 1 := by decide +kernel
theorem hd_X12_stand : hdT yX12_stand 2 := by decide +kernel
theorem hd_X12_struck : hdT yX12_struck 2 := by decide +kernel
theorem hd_X12_sure : hdT yX12_sure 2 := by decide +kernel
theorem hd_X12_synonyms : hdT yX12_synonyms 1 := by decide +kernel
theorem hd_X12_term : hdT yX12_term 0 := by decide +kernel
theorem hd_X12_undo : hdT yX12_undo 0 := by decide +kernel
theorem hd_X12_unlike_ : hdT yX12_unlike_ 2 := by decide +kernel
theorem hd_X12_votes : hdT yX12_votes 1 := by decide +kernel
theorem hd_X12_wins : hdT yX12_wins 2 := by decide +kernel
theorem hd_X12_with : hdT yX12_with 2 := by decide +kernel
theorem hd_X12_word : hdT yX12_word 2 := by decide +kernel
theorem hd_X12_write : hdT yX12_write 3 := by decide +kernel
theorem hd_X12_years : hdT yX12_years 3 := by decide +kernel
theorem hd_X1_init : hdT yX1_init 2 := by decide +kernel
theorem hd_X2_init : hdT yX2_init 1 := by decide +kernel
theorem hd_X3_init : hdT yX3_init 1 := by decide +kernel
theorem hd_X4_init : hdT yX4_init 2 := by decide +kernel
theorem hd_X5_init : hdT yX5_init 0 := by decide +kernel
theorem hd_X6_init : hdT yX6_init 0 := by decide +kernel
theorem hd_X7_init : hdT yX7_init 2 := by decide +kernel
theorem hd_X8_init : hdT yX8_init 0 := by decide +kernel
theorem hd_X9_init : hdT yX9_init 0 := by decide +kernel
