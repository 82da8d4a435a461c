theorem d_L_law_341 : decode code 341 = .ok (.lcmp, 1) := by decide +kernel
theorem d_L_law_342 : decode code 342 = .ok (.ifCond .eq 5, 3) := by decide +kernel
theorem d_L_law_347 : decode code 347 = .ok (.goto 985, 3) := by decide +kernel
theorem d_L_law_350 : decode code 350 = .ok (.aload_n 1, 1) := by decide +kernel
theorem d_L_law_351 : decode code 351 = .ok (.aload_n 0, 1) := by decide +kernel
theorem d_L_law_352 : decode code 352 = .ok (.iload 4, 2) := by decide +kernel
theorem d_L_law_354 : decode code 354 = .ok (.iconst 1, 1) := by decide +kernel
theorem d_L_law_355 : decode code 355 = .ok (.iadd, 1) := by decide +kernel
theorem d_L_law_356 : decode code 356 = .ok (.iaload, 1) := by decide +kernel
theorem d_L_law_357 : decode code 357 = .ok (.aload_n 0, 1) := by decide +kernel
theorem d_L_law_358 : decode code 358 = .ok (.iload 4, 2) := by decide +kernel
theorem d_L_law_360 : decode code 360 = .ok (.iconst 2, 1) := by decide +kernel
theorem d_L_law_361 : decode code 361 = .ok (.iadd, 1) := by decide +kernel
theorem d_L_law_362 : decode code 362 = .ok (.iaload, 1) := by decide +kernel
theorem d_L_law_363 : decode code 363 = .ok (.aload_n 3, 1) := by decide +kernel
theorem d_L_law_364 : decode code 364 = .ok (.invokestatic 96, 3) := by decide +kernel
theorem d_L_law_367 : decode code 367 = .ok (.istore 5, 2) := by decide +kernel
theorem d_L_law_369 : decode code 369 = .ok (.aload_n 2, 1) := by decide +kernel
theorem d_L_law_370 : decode code 370 = .ok (.aload_n 0, 1) := by decide +kernel
theorem d_L_law_371 : decode code 371 = .ok (.iload 4, 2) := by decide +kernel
theorem d_L_law_373 : decode code 373 = .ok (.iconst 1, 1) := by decide +kernel
theorem d_L_law_374 : decode code 374 = .ok (.iadd, 1) := by decide +kernel
theorem d_L_law_375 : decode code 375 = .ok (.iaload, 1) := by decide +kernel
theorem d_L_law_376 : decode code 376 = .ok (.aload_n 0, 1) := by decide +kernel
theorem d_L_law_377 : decode code 377 = .ok (.iload 4, 2) := by decide +kernel
theorem d_L_law_379 : decode code 379 = .ok (.iconst 2, 1) := by decide +kernel
theorem d_L_law_380 : decode code 380 = .ok (.iadd, 1) := by decide +kernel
theorem d_L_law_381 : decode code 381 = .ok (.iaload, 1) := by decide +kernel
theorem d_L_law_382 : decode code 382 = .ok (.invokevirtual 99, 3) := by decide +kernel
theorem d_L_law_385 : decode code 385 = .ok (.istore 6, 2) := by decide +kernel
theorem d_L_law_387 : decode code 387 = .ok (.aload_n 2, 1) := by decide +kernel
theorem d_L_law_388 : decode code 388 = .ok (.invokevirtual 85, 3) := by decide +kernel
theorem d_L_law_391 : decode code 391 = .ok (.iload 5, 2) := by decide +kernel
theorem d_L_law_393 : decode code 393 = .ok (.if_icmp .eq 5, 3) := by decide +kernel
theorem d_L_law_398 : decode code 398 = .ok (.iload 5, 2) := by decide +kernel
theorem d_L_law_400 : decode code 400 = .ok (.ifCond .ne 15, 3) := by decide +kernel
theorem d_L_law_403 : decode code 403 = .ok (.aload_n 3, 1) := by decide +kernel
theorem d_L_law_404 : decode code 404 = .ok (.iconst 0, 1) := by decide +kernel
theorem d_L_law_405 : decode code 405 = .ok (.laload, 1) := by decide +kernel
theorem d_L_law_406 : decode code 406 = .ok (.iload 6, 2) := by decide +kernel
theorem d_L_law_408 : decode code 408 = .ok (.i2l, 1) := by decide +kernel
theorem d_L_law_409 : decode code 409 = .ok (.lcmp, 1) := by decide +kernel
theorem d_L_law_410 : decode code 410 = .ok (.ifCond .eq 5, 3) := by decide +kernel
theorem d_L_law_415 : decode code 415 = .ok (.goto 917, 3) := by decide +kernel
theorem d_L_law_418 : decode code 418 = .ok (.aload_n 1, 1) := by decide +kernel
theorem d_L_law_419 : decode code 419 = .ok (.aload_n 0, 1) := by decide +kernel
theorem d_L_law_420 : decode code 420 = .ok (.iload 4, 2) := by decide +kernel
theorem d_L_law_422 : decode code 422 = .ok (.iconst 1, 1) := by decide +kernel
theorem d_L_law_423 : decode code 423 = .ok (.iadd, 1) := by decide +kernel
theorem d_L_law_424 : decode code 424 = .ok (.iaload, 1) := by decide +kernel
theorem d_L_law_425 : decode code 425 = .ok (.aload_n 0, 1) := by decide +kernel
theorem d_L_law_426 : decode code 426 = .ok (.iload 4, 2) := by decide +kernel
theorem d_L_law_428 : decode code 428 = .ok (.iconst 2, 1) := by decide +kernel
theorem d_L_law_429 : decode code 429 = .ok (.iadd, 1) := by decide +kernel
theorem d_L_law_430 : decode code 430 = .ok (.iaload, 1) := by decide +kernel
theorem d_L_law_431 : decode code 431 = .ok (.aload_n 3, 1) := by decide +kernel
theorem d_L_law_432 : decode code 432 = .ok (.invokestatic 100, 3) := by decide +kernel
theorem d_L_law_435 : decode code 435 = .ok (.istore 5, 2) := by decide +kernel
theorem d_L_law_437 : decode code 437 = .ok (.aload_n 2, 1) := by decide +kernel
theorem d_L_law_438 : decode code 438 = .ok (.aload_n 0, 1) := by decide +kernel
theorem d_L_law_439 : decode code 439 = .ok (.iload 4, 2) := by decide +kernel
theorem d_L_law_441 : decode code 441 = .ok (.iconst 1, 1) := by decide +kernel
theorem d_L_law_442 : decode code 442 = .ok (.iadd, 1) := by decide +kernel
theorem d_L_law_443 : decode code 443 = .ok (.iaload, 1) := by decide +kernel
theorem d_L_law_444 : decode code 444 = .ok (.aload_n 0, 1) := by decide +kernel
theorem d_L_law_445 : decode code 445 = .ok (.iload 4, 2) := by decide +kernel
theorem d_L_law_447 : decode code 447 = .ok (.iconst 2, 1) := by decide +kernel
theorem d_L_law_448 : decode code 448 = .ok (.iadd, 1) := by decide +kernel
theorem d_L_law_449 : decode code 449 = .ok (.iaload, 1) := by decide +kernel
theorem d_L_law_450 : decode code 450 = .ok (.invokevirtual 102, 3) := by decide +kernel
theorem d_L_law_453 : decode code 453 = .ok (.istore 6, 2) := by decide +kernel
theorem d_L_law_455 : decode code 455 = .ok (.aload_n 2, 1) := by decide +kernel
theorem d_L_law_456 : decode code 456 = .ok (.invokevirtual 85, 3) := by decide +kernel
theorem d_L_law_459 : decode code 459 = .ok (.iload 5, 2) := by decide +kernel
theorem d_L_law_461 : decode code 461 = .ok (.if_icmp .eq 5, 3) := by decide +kernel
theorem d_L_law_466 : decode code 466 = .ok (.iload 5, 2) := by decide +kernel
theorem d_L_law_468 : decode code 468 = .ok (.ifCond .ne 15, 3) := by decide +kernel
theorem d_L_law_471 : decode code 471 = .ok (.aload_n 3, 1) := by decide +kernel
theorem d_L_law_472 : decode code 472 = .ok (.iconst 0, 1) := by decide +kernel
theorem d_L_law_473 : decode code 473 = .ok (.laload, 1) := by decide +kernel
theorem d_L_law_474 : decode code 474 = .ok (.iload 6, 2) := by decide +kernel
theorem d_L_law_476 : decode code 476 = .ok (.i2l, 1) := by decide +kernel
theorem d_L_law_477 : decode code 477 = .ok (.lcmp, 1) := by decide +kernel
theorem d_L_law_478 : decode code 478 = .ok (.ifCond .eq 5, 3) := by decide +kernel
theorem d_L_law_483 : decode code 483 = .ok (.goto 849, 3) := by decide +kernel
theorem d_L_law_486 : decode code 486 = .ok (.aload_n 1, 1) := by decide +kernel
theorem d_L_law_487 : decode code 487 = .ok (.aload_n 0, 1) := by decide +kernel
theorem d_L_law_488 : decode code 488 = .ok (.iload 4, 2) := by decide +kernel
theorem d_L_law_490 : decode code 490 = .ok (.iconst 1, 1) := by decide +kernel
theorem d_L_law_491 : decode code 491 = .ok (.iadd, 1) := by decide +kernel
theorem d_L_law_492 : decode code 492 = .ok (.iaload, 1) := by decide +kernel
theorem d_L_law_493 : decode code 493 = .ok (.aload_n 3, 1) := by decide +kernel
theorem d_L_law_494 : decode code 494 = .ok (.invokestatic 103, 3) := by decide +kernel
theorem d_L_law_497 : decode code 497 = .ok (.istore 5, 2) := by decide +kernel
theorem d_L_law_499 : decode code 499 = .ok (.aload_n 2, 1) := by decide +kernel
theorem d_L_law_500 : decode code 500 = .ok (.aload_n 0, 1) := by decide +kernel
theorem d_L_law_501 : decode code 501 = .ok (.iload 4, 2) := by decide +kernel
theorem d_L_law_503 : decode code 503 = .ok (.iconst 1, 1) := by decide +kernel
theorem d_L_law_504 : decode code 504 = .ok (.iadd, 1) := by decide +kernel
theorem d_L_law_505 : decode code 505 = .ok (.iaload, 1) := by decide +kernel
theorem d_L_law_506 : decode code 506 = .ok (.invokevirtual 105, 3) := by decide +kernel
theorem d_L_law_509 : decode code 509 = .ok (.istore 6, 2) := by decide +kernel
theorem d_L_law_511 : decode code 511 = .ok (.aload_n 2, 1) := by decide +kernel
theorem d_L_law_512 : decode code 512 = .ok (.invokevirtual 85, 3) := by decide +kernel
theorem d_L_law_515 : decode code 515 = .ok (.iload 5, 2) := by decide +kernel
theorem d_L_law_517 : decode code 517 = .ok (.if_icmp .eq 5, 3) := by decide +kernel
theorem d_L_law_522 : decode code 522 = .ok (.iload 5, 2) := by decide +kernel
theorem d_L_law_524 : decode code 524 = .ok (.ifCond .ne 15, 3) := by decide +kernel
theorem d_L_law_527 : decode code 527 = .ok (.aload_n 3, 1) := by decide +kernel
theorem d_L_law_528 : decode code 528 = .ok (.iconst 0, 1) := by decide +kernel
theorem d_L_law_529 : decode code 529 = .ok (.laload, 1) := by decide +kernel
theorem d_L_law_530 : decode code 530 = .ok (.iload 6, 2) := by decide +kernel
theorem d_L_law_532 : decode code 532 = .ok (.i2l, 1) := by decide +kernel
theorem d_L_law_533 : decode code 533 = .ok (.lcmp, 1) := by decide +kernel
theorem d_L_law_534 : decode code 534 = .ok (.ifCond .eq 5, 3) := by decide +kernel
theorem d_L_law_539 : decode code 539 = .ok (.goto 793, 3) := by decide +kernel
theorem d_L_law_542 : decode code 542 = .ok (.aload_n 1, 1) := by decide +kernel
theorem d_L_law_543 : decode code 543 = .ok (.aload_n 3, 1) := by decide +kernel
theorem d_L_law_544 : decode code 544 = .ok (.invokestatic 106, 3) := by decide +kernel
theorem d_L_law_547 : decode code 547 = .ok (.istore 5, 2) := by decide +kernel
theorem d_L_law_549 : decode code 549 = .ok (.aload_n 2, 1) := by decide +kernel
theorem d_L_law_550 : decode code 550 = .ok (.invokevirtual 108, 3) := by decide +kernel
theorem d_L_law_553 : decode code 553 = .ok (.istore 6, 2) := by decide +kernel
theorem d_L_law_555 : decode code 555 = .ok (.aload_n 2, 1) := by decide +kernel
theorem d_L_law_556 : decode code 556 = .ok (.invokevirtual 85, 3) := by decide +kernel
theorem d_L_law_559 : decode code 559 = .ok (.iload 5, 2) := by decide +kernel
theorem d_L_law_561 : decode code 561 = .ok (.if_icmp .eq 5, 3) := by decide +kernel
theorem d_L_law_566 : decode code 566 = .ok (.iload 5, 2) := by decide +kernel
theorem d_L_law_568 : decode code 568 = .ok (.ifCond .ne 15, 3) := by decide +kernel
theorem d_L_law_571 : decode code 571 = .ok (.aload_n 3, 1) := by decide +kernel
theorem d_L_law_572 : decode code 572 = .ok (.iconst 0, 1) := by decide +kernel
theorem d_L_law_573 : decode code 573 = .ok (.laload, 1) := by decide +kernel
theorem d_L_law_574 : decode code 574 = .ok (.iload 6, 2) := by decide +kernel
theorem d_L_law_576 : decode code 576 = .ok (.i2l, 1) := by decide +kernel
theorem d_L_law_577 : decode code 577 = .ok (.lcmp, 1) := by decide +kernel
theorem d_L_law_578 : decode code 578 = .ok (.ifCond .eq 5, 3) := by decide +kernel
theorem d_L_law_583 : decode code 583 = .ok (.goto 749, 3) := by decide +kernel
theorem d_L_law_586 : decode code 586 = .ok (.aload_n 1, 1) := by decide +kernel
theorem d_L_law_587 : decode code 587 = .ok (.aload_n 0, 1) := by decide +kernel
theorem d_L_law_588 : decode code 588 = .ok (.iload 4, 2) := by decide +kernel
theorem d_L_law_590 : decode code 590 = .ok (.iconst 1, 1) := by decide +kernel
theorem d_L_law_591 : decode code 591 = .ok (.iadd, 1) := by decide +kernel
theorem d_L_law_592 : decode code 592 = .ok (.iaload, 1) := by decide +kernel
theorem d_L_law_593 : decode code 593 = .ok (.aload_n 0, 1) := by decide +kernel
theorem d_L_law_594 : decode code 594 = .ok (.iload 4, 2) := by decide +kernel
theorem d_L_law_596 : decode code 596 = .ok (.iconst 2, 1) := by decide +kernel
theorem d_L_law_597 : decode code 597 = .ok (.iadd, 1) := by decide +kernel
theorem d_L_law_598 : decode code 598 = .ok (.iaload, 1) := by decide +kernel
theorem d_L_law_599 : decode code 599 = .ok (.aload_n 3, 1) := by decide +kernel
theorem d_L_law_600 : decode code 600 = .ok (.invokestatic 109, 3) := by decide +kernel
