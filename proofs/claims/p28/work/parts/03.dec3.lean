theorem dL_build_316 : decode cL_build 316 = .ok (.iaload, 1) := by decide +kernel
theorem dL_build_317 : decode cL_build 317 = .ok (.if_icmp .ge 10, 3) := by decide +kernel
theorem dL_build_320 : decode cL_build 320 = .ok (.iload 7, 2) := by decide +kernel
theorem dL_build_322 : decode cL_build 322 = .ok (.iconst 1, 1) := by decide +kernel
theorem dL_build_323 : decode cL_build 323 = .ok (.iadd, 1) := by decide +kernel
theorem dL_build_324 : decode cL_build 324 = .ok (.goto 29, 3) := by decide +kernel
theorem dL_build_327 : decode cL_build 327 = .ok (.aload 5, 2) := by decide +kernel
theorem dL_build_329 : decode cL_build 329 = .ok (.iconst 4, 1) := by decide +kernel
theorem dL_build_330 : decode cL_build 330 = .ok (.iload 7, 2) := by decide +kernel
theorem dL_build_332 : decode cL_build 332 = .ok (.imul, 1) := by decide +kernel
theorem dL_build_333 : decode cL_build 333 = .ok (.iaload, 1) := by decide +kernel
theorem dL_build_334 : decode cL_build 334 = .ok (.iconst 1, 1) := by decide +kernel
theorem dL_build_335 : decode cL_build 335 = .ok (.iadd, 1) := by decide +kernel
theorem dL_build_336 : decode cL_build 336 = .ok (.iload 8, 2) := by decide +kernel
theorem dL_build_338 : decode cL_build 338 = .ok (.iconst 3, 1) := by decide +kernel
theorem dL_build_339 : decode cL_build 339 = .ok (.ishr, 1) := by decide +kernel
theorem dL_build_340 : decode cL_build 340 = .ok (.aload_n 3, 1) := by decide +kernel
theorem dL_build_341 : decode cL_build 341 = .ok (.iconst 0, 1) := by decide +kernel
theorem dL_build_342 : decode cL_build 342 = .ok (.iaload, 1) := by decide +kernel
theorem dL_build_343 : decode cL_build 343 = .ok (.iconst 1, 1) := by decide +kernel
theorem dL_build_344 : decode cL_build 344 = .ok (.isub, 1) := by decide +kernel
theorem dL_build_345 : decode cL_build 345 = .ok (.invokestatic 15, 3) := by decide +kernel
theorem dL_build_348 : decode cL_build 348 = .ok (.iadd, 1) := by decide +kernel
theorem dL_build_349 : decode cL_build 349 = .ok (.aload_n 3, 1) := by decide +kernel
theorem dL_build_350 : decode cL_build 350 = .ok (.iconst 0, 1) := by decide +kernel
theorem dL_build_351 : decode cL_build 351 = .ok (.iaload, 1) := by decide +kernel
theorem dL_build_352 : decode cL_build 352 = .ok (.irem, 1) := by decide +kernel
theorem dL_build_353 : decode cL_build 353 = .ok (.iastore, 1) := by decide +kernel
theorem dL_build_354 : decode cL_build 354 = .ok (.aload 5, 2) := by decide +kernel
theorem dL_build_356 : decode cL_build 356 = .ok (.iconst 4, 1) := by decide +kernel
theorem dL_build_357 : decode cL_build 357 = .ok (.iload 7, 2) := by decide +kernel
theorem dL_build_359 : decode cL_build 359 = .ok (.imul, 1) := by decide +kernel
theorem dL_build_360 : decode cL_build 360 = .ok (.iconst 2, 1) := by decide +kernel
theorem dL_build_361 : decode cL_build 361 = .ok (.iadd, 1) := by decide +kernel
theorem dL_build_362 : decode cL_build 362 = .ok (.iload 8, 2) := by decide +kernel
theorem dL_build_364 : decode cL_build 364 = .ok (.iconst 5, 1) := by decide +kernel
theorem dL_build_365 : decode cL_build 365 = .ok (.ishr, 1) := by decide +kernel
theorem dL_build_366 : decode cL_build 366 = .ok (.iconst 5, 1) := by decide +kernel
theorem dL_build_367 : decode cL_build 367 = .ok (.invokestatic 15, 3) := by decide +kernel
theorem dL_build_370 : decode cL_build 370 = .ok (.iastore, 1) := by decide +kernel
theorem dL_build_371 : decode cL_build 371 = .ok (.aload 5, 2) := by decide +kernel
theorem dL_build_373 : decode cL_build 373 = .ok (.iconst 4, 1) := by decide +kernel
theorem dL_build_374 : decode cL_build 374 = .ok (.iload 7, 2) := by decide +kernel
theorem dL_build_376 : decode cL_build 376 = .ok (.imul, 1) := by decide +kernel
theorem dL_build_377 : decode cL_build 377 = .ok (.iconst 3, 1) := by decide +kernel
theorem dL_build_378 : decode cL_build 378 = .ok (.iadd, 1) := by decide +kernel
theorem dL_build_379 : decode cL_build 379 = .ok (.iload 8, 2) := by decide +kernel
theorem dL_build_381 : decode cL_build 381 = .ok (.bipush 7, 2) := by decide +kernel
theorem dL_build_383 : decode cL_build 383 = .ok (.ishr, 1) := by decide +kernel
theorem dL_build_384 : decode cL_build 384 = .ok (.iconst 3, 1) := by decide +kernel
theorem dL_build_385 : decode cL_build 385 = .ok (.invokestatic 15, 3) := by decide +kernel
theorem dL_build_388 : decode cL_build 388 = .ok (.ifCond .ne 17, 3) := by decide +kernel
theorem dL_build_391 : decode cL_build 391 = .ok (.iconst 1, 1) := by decide +kernel
theorem dL_build_392 : decode cL_build 392 = .ok (.iload 8, 2) := by decide +kernel
theorem dL_build_394 : decode cL_build 394 = .ok (.bipush 8, 2) := by decide +kernel
theorem dL_build_396 : decode cL_build 396 = .ok (.ishr, 1) := by decide +kernel
theorem dL_build_397 : decode cL_build 397 = .ok (.iconst 3, 1) := by decide +kernel
theorem dL_build_398 : decode cL_build 398 = .ok (.invokestatic 15, 3) := by decide +kernel
theorem dL_build_401 : decode cL_build 401 = .ok (.iadd, 1) := by decide +kernel
theorem dL_build_402 : decode cL_build 402 = .ok (.goto 4, 3) := by decide +kernel
theorem dL_build_405 : decode cL_build 405 = .ok (.iconst 0, 1) := by decide +kernel
theorem dL_build_406 : decode cL_build 406 = .ok (.iastore, 1) := by decide +kernel
theorem dL_build_407 : decode cL_build 407 = .ok (.aload_n 0, 1) := by decide +kernel
theorem dL_build_408 : decode cL_build 408 = .ok (.aload 5, 2) := by decide +kernel
theorem dL_build_410 : decode cL_build 410 = .ok (.iconst 4, 1) := by decide +kernel
theorem dL_build_411 : decode cL_build 411 = .ok (.iload 7, 2) := by decide +kernel
theorem dL_build_413 : decode cL_build 413 = .ok (.imul, 1) := by decide +kernel
theorem dL_build_414 : decode cL_build 414 = .ok (.iaload, 1) := by decide +kernel
theorem dL_build_415 : decode cL_build 415 = .ok (.aload 5, 2) := by decide +kernel
theorem dL_build_417 : decode cL_build 417 = .ok (.iconst 4, 1) := by decide +kernel
theorem dL_build_418 : decode cL_build 418 = .ok (.iload 7, 2) := by decide +kernel
theorem dL_build_420 : decode cL_build 420 = .ok (.imul, 1) := by decide +kernel
theorem dL_build_421 : decode cL_build 421 = .ok (.iconst 1, 1) := by decide +kernel
theorem dL_build_422 : decode cL_build 422 = .ok (.iadd, 1) := by decide +kernel
theorem dL_build_423 : decode cL_build 423 = .ok (.iaload, 1) := by decide +kernel
theorem dL_build_424 : decode cL_build 424 = .ok (.aload 5, 2) := by decide +kernel
theorem dL_build_426 : decode cL_build 426 = .ok (.iconst 4, 1) := by decide +kernel
theorem dL_build_427 : decode cL_build 427 = .ok (.iload 7, 2) := by decide +kernel
theorem dL_build_429 : decode cL_build 429 = .ok (.imul, 1) := by decide +kernel
theorem dL_build_430 : decode cL_build 430 = .ok (.iconst 2, 1) := by decide +kernel
theorem dL_build_431 : decode cL_build 431 = .ok (.iadd, 1) := by decide +kernel
theorem dL_build_432 : decode cL_build 432 = .ok (.iaload, 1) := by decide +kernel
theorem dL_build_433 : decode cL_build 433 = .ok (.aload 5, 2) := by decide +kernel
theorem dL_build_435 : decode cL_build 435 = .ok (.iconst 4, 1) := by decide +kernel
theorem dL_build_436 : decode cL_build 436 = .ok (.iload 7, 2) := by decide +kernel
theorem dL_build_438 : decode cL_build 438 = .ok (.imul, 1) := by decide +kernel
theorem dL_build_439 : decode cL_build 439 = .ok (.iconst 3, 1) := by decide +kernel
theorem dL_build_440 : decode cL_build 440 = .ok (.iadd, 1) := by decide +kernel
theorem dL_build_441 : decode cL_build 441 = .ok (.iaload, 1) := by decide +kernel
theorem dL_build_442 : decode cL_build 442 = .ok (.invokevirtual 25, 3) := by decide +kernel
theorem dL_build_445 : decode cL_build 445 = .ok (.iload 7, 2) := by decide +kernel
theorem dL_build_447 : decode cL_build 447 = .ok (.if_icmp .eq 5, 3) := by decide +kernel
theorem dL_build_450 : decode cL_build 450 = .ok (.iconst 0, 1) := by decide +kernel
theorem dL_build_451 : decode cL_build 451 = .ok (.ireturn, 1) := by decide +kernel
theorem dL_build_452 : decode cL_build 452 = .ok (.iinc 7 1, 3) := by decide +kernel
theorem dL_build_455 : decode cL_build 455 = .ok (.goto (-213), 3) := by decide +kernel
theorem dL_build_458 : decode cL_build 458 = .ok (.aload_n 3, 1) := by decide +kernel
theorem dL_build_459 : decode cL_build 459 = .ok (.iconst 2, 1) := by decide +kernel
theorem dL_build_460 : decode cL_build 460 = .ok (.iconst 1, 1) := by decide +kernel
theorem dL_build_461 : decode cL_build 461 = .ok (.aload_n 1, 1) := by decide +kernel
theorem dL_build_462 : decode cL_build 462 = .ok (.iload_n 2, 1) := by decide +kernel
theorem dL_build_463 : decode cL_build 463 = .ok (.invokestatic 9, 3) := by decide +kernel
theorem dL_build_466 : decode cL_build 466 = .ok (.bipush 8, 2) := by decide +kernel
theorem dL_build_468 : decode cL_build 468 = .ok (.ishr, 1) := by decide +kernel
theorem dL_build_469 : decode cL_build 469 = .ok (.bipush 6, 2) := by decide +kernel
theorem dL_build_471 : decode cL_build 471 = .ok (.invokestatic 15, 3) := by decide +kernel
theorem dL_build_474 : decode cL_build 474 = .ok (.iadd, 1) := by decide +kernel
theorem dL_build_475 : decode cL_build 475 = .ok (.iastore, 1) := by decide +kernel
theorem dL_build_476 : decode cL_build 476 = .ok (.iconst 0, 1) := by decide +kernel
theorem dL_build_477 : decode cL_build 477 = .ok (.istore 7, 2) := by decide +kernel
theorem dL_build_479 : decode cL_build 479 = .ok (.iload 7, 2) := by decide +kernel
theorem dL_build_481 : decode cL_build 481 = .ok (.aload_n 3, 1) := by decide +kernel
theorem dL_build_482 : decode cL_build 482 = .ok (.iconst 2, 1) := by decide +kernel
theorem dL_build_483 : decode cL_build 483 = .ok (.iaload, 1) := by decide +kernel
theorem dL_build_484 : decode cL_build 484 = .ok (.if_icmp .ge 190, 3) := by decide +kernel
theorem dL_build_487 : decode cL_build 487 = .ok (.aload_n 1, 1) := by decide +kernel
theorem dL_build_488 : decode cL_build 488 = .ok (.iload_n 2, 1) := by decide +kernel
theorem dL_build_489 : decode cL_build 489 = .ok (.bipush 8, 2) := by decide +kernel
theorem dL_build_491 : decode cL_build 491 = .ok (.iadd, 1) := by decide +kernel
theorem dL_build_492 : decode cL_build 492 = .ok (.iload 7, 2) := by decide +kernel
theorem dL_build_494 : decode cL_build 494 = .ok (.iconst 3, 1) := by decide +kernel
theorem dL_build_495 : decode cL_build 495 = .ok (.irem, 1) := by decide +kernel
theorem dL_build_496 : decode cL_build 496 = .ok (.iadd, 1) := by decide +kernel
theorem dL_build_497 : decode cL_build 497 = .ok (.invokestatic 9, 3) := by decide +kernel
theorem dL_build_500 : decode cL_build 500 = .ok (.iload 7, 2) := by decide +kernel
theorem dL_build_502 : decode cL_build 502 = .ok (.iconst 3, 1) := by decide +kernel
theorem dL_build_503 : decode cL_build 503 = .ok (.idiv, 1) := by decide +kernel
theorem dL_build_504 : decode cL_build 504 = .ok (.bipush 9, 2) := by decide +kernel
theorem dL_build_506 : decode cL_build 506 = .ok (.imul, 1) := by decide +kernel
theorem dL_build_507 : decode cL_build 507 = .ok (.ishr, 1) := by decide +kernel
theorem dL_build_508 : decode cL_build 508 = .ok (.istore 8, 2) := by decide +kernel
theorem dL_build_510 : decode cL_build 510 = .ok (.iload 7, 2) := by decide +kernel
theorem dL_build_512 : decode cL_build 512 = .ok (.ifCond .le 23, 3) := by decide +kernel
theorem dL_build_515 : decode cL_build 515 = .ok (.iload 8, 2) := by decide +kernel
theorem dL_build_517 : decode cL_build 517 = .ok (.iconst 3, 1) := by decide +kernel
theorem dL_build_518 : decode cL_build 518 = .ok (.invokestatic 15, 3) := by decide +kernel
theorem dL_build_521 : decode cL_build 521 = .ok (.ifCond .ne 14, 3) := by decide +kernel
theorem dL_build_524 : decode cL_build 524 = .ok (.aload 6, 2) := by decide +kernel
theorem dL_build_526 : decode cL_build 526 = .ok (.iconst 0, 1) := by decide +kernel
theorem dL_build_527 : decode cL_build 527 = .ok (.iaload, 1) := by decide +kernel
theorem dL_build_528 : decode cL_build 528 = .ok (.ifCond .lt 7, 3) := by decide +kernel
theorem dL_build_531 : decode cL_build 531 = .ok (.iconst 1, 1) := by decide +kernel
theorem dL_build_532 : decode cL_build 532 = .ok (.goto 4, 3) := by decide +kernel
theorem dL_build_535 : decode cL_build 535 = .ok (.iconst 0, 1) := by decide +kernel
theorem dL_build_536 : decode cL_build 536 = .ok (.istore 9, 2) := by decide +kernel
theorem dL_build_538 : decode cL_build 538 = .ok (.aload 6, 2) := by decide +kernel
theorem dL_build_540 : decode cL_build 540 = .ok (.iconst 2, 1) := by decide +kernel
theorem dL_build_541 : decode cL_build 541 = .ok (.iload 7, 2) := by decide +kernel
theorem dL_build_543 : decode cL_build 543 = .ok (.imul, 1) := by decide +kernel
theorem dL_build_544 : decode cL_build 544 = .ok (.iload 9, 2) := by decide +kernel
theorem dL_build_546 : decode cL_build 546 = .ok (.ifCond .eq 7, 3) := by decide +kernel
theorem dL_build_549 : decode cL_build 549 = .ok (.iconst (-1), 1) := by decide +kernel
theorem dL_build_550 : decode cL_build 550 = .ok (.goto 30, 3) := by decide +kernel
theorem dL_build_553 : decode cL_build 553 = .ok (.iload 8, 2) := by decide +kernel
theorem dL_build_555 : decode cL_build 555 = .ok (.iconst 1, 1) := by decide +kernel
theorem dL_build_556 : decode cL_build 556 = .ok (.ishr, 1) := by decide +kernel
theorem dL_build_557 : decode cL_build 557 = .ok (.iconst 3, 1) := by decide +kernel
theorem dL_build_558 : decode cL_build 558 = .ok (.invokestatic 15, 3) := by decide +kernel
theorem dL_build_561 : decode cL_build 561 = .ok (.ifCond .ne 16, 3) := by decide +kernel
theorem dL_build_564 : decode cL_build 564 = .ok (.iload 8, 2) := by decide +kernel
theorem dL_build_566 : decode cL_build 566 = .ok (.iconst 2, 1) := by decide +kernel
theorem dL_build_567 : decode cL_build 567 = .ok (.ishr, 1) := by decide +kernel
theorem dL_build_568 : decode cL_build 568 = .ok (.sipush 256, 3) := by decide +kernel
theorem dL_build_571 : decode cL_build 571 = .ok (.invokestatic 15, 3) := by decide +kernel
theorem dL_build_574 : decode cL_build 574 = .ok (.goto 6, 3) := by decide +kernel
theorem dL_build_577 : decode cL_build 577 = .ok (.sipush 255, 3) := by decide +kernel
theorem dL_build_580 : decode cL_build 580 = .ok (.iastore, 1) := by decide +kernel
theorem dL_build_581 : decode cL_build 581 = .ok (.aload 6, 2) := by decide +kernel
theorem dL_build_583 : decode cL_build 583 = .ok (.iconst 2, 1) := by decide +kernel
theorem dL_build_584 : decode cL_build 584 = .ok (.iload 7, 2) := by decide +kernel
theorem dL_build_586 : decode cL_build 586 = .ok (.imul, 1) := by decide +kernel
theorem dL_build_587 : decode cL_build 587 = .ok (.iconst 1, 1) := by decide +kernel
theorem dL_build_588 : decode cL_build 588 = .ok (.iadd, 1) := by decide +kernel
theorem dL_build_589 : decode cL_build 589 = .ok (.iconst (-1), 1) := by decide +kernel
theorem dL_build_590 : decode cL_build 590 = .ok (.iastore, 1) := by decide +kernel
theorem dL_build_591 : decode cL_build 591 = .ok (.iload 9, 2) := by decide +kernel
theorem dL_build_593 : decode cL_build 593 = .ok (.ifCond .eq 57, 3) := by decide +kernel
theorem dL_build_596 : decode cL_build 596 = .ok (.iload 8, 2) := by decide +kernel
theorem dL_build_598 : decode cL_build 598 = .ok (.iconst 2, 1) := by decide +kernel
theorem dL_build_599 : decode cL_build 599 = .ok (.ishr, 1) := by decide +kernel
theorem dL_build_600 : decode cL_build 600 = .ok (.iload 7, 2) := by decide +kernel
theorem dL_build_602 : decode cL_build 602 = .ok (.invokestatic 15, 3) := by decide +kernel
theorem dL_build_605 : decode cL_build 605 = .ok (.istore 10, 2) := by decide +kernel
theorem dL_build_607 : decode cL_build 607 = .ok (.aload 6, 2) := by decide +kernel
theorem dL_build_609 : decode cL_build 609 = .ok (.iconst 2, 1) := by decide +kernel
theorem dL_build_610 : decode cL_build 610 = .ok (.iload 10, 2) := by decide +kernel
theorem dL_build_612 : decode cL_build 612 = .ok (.imul, 1) := by decide +kernel
theorem dL_build_613 : decode cL_build 613 = .ok (.iaload, 1) := by decide +kernel
theorem dL_build_614 : decode cL_build 614 = .ok (.ifCond .ge 9, 3) := by decide +kernel
theorem dL_build_617 : decode cL_build 617 = .ok (.iinc 10 (-1), 3) := by decide +kernel
theorem dL_build_620 : decode cL_build 620 = .ok (.goto (-13), 3) := by decide +kernel
theorem dL_build_623 : decode cL_build 623 = .ok (.aload 6, 2) := by decide +kernel
theorem dL_build_625 : decode cL_build 625 = .ok (.iconst 2, 1) := by decide +kernel
theorem dL_build_626 : decode cL_build 626 = .ok (.iload 7, 2) := by decide +kernel
theorem dL_build_628 : decode cL_build 628 = .ok (.imul, 1) := by decide +kernel
theorem dL_build_629 : decode cL_build 629 = .ok (.iconst 1, 1) := by decide +kernel
theorem dL_build_630 : decode cL_build 630 = .ok (.iadd, 1) := by decide +kernel
theorem dL_build_631 : decode cL_build 631 = .ok (.iload 10, 2) := by decide +kernel
theorem dL_build_633 : decode cL_build 633 = .ok (.iastore, 1) := by decide +kernel
theorem dL_build_634 : decode cL_build 634 = .ok (.aload_n 0, 1) := by decide +kernel
theorem dL_build_635 : decode cL_build 635 = .ok (.iload 10, 2) := by decide +kernel
theorem dL_build_637 : decode cL_build 637 = .ok (.invokevirtual 29, 3) := by decide +kernel
theorem dL_build_640 : decode cL_build 640 = .ok (.iload 7, 2) := by decide +kernel
theorem dL_build_642 : decode cL_build 642 = .ok (.if_icmp .eq 5, 3) := by decide +kernel
theorem dL_build_645 : decode cL_build 645 = .ok (.iconst 0, 1) := by decide +kernel
theorem dL_build_646 : decode cL_build 646 = .ok (.ireturn, 1) := by decide +kernel
theorem dL_build_647 : decode cL_build 647 = .ok (.goto 21, 3) := by decide +kernel
theorem dL_build_650 : decode cL_build 650 = .ok (.aload_n 0, 1) := by decide +kernel
theorem dL_build_651 : decode cL_build 651 = .ok (.aload 6, 2) := by decide +kernel
theorem dL_build_653 : decode cL_build 653 = .ok (.iconst 2, 1) := by decide +kernel
theorem dL_build_654 : decode cL_build 654 = .ok (.iload 7, 2) := by decide +kernel
theorem dL_build_656 : decode cL_build 656 = .ok (.imul, 1) := by decide +kernel
theorem dL_build_657 : decode cL_build 657 = .ok (.iaload, 1) := by decide +kernel
theorem dL_build_658 : decode cL_build 658 = .ok (.invokevirtual 33, 3) := by decide +kernel
theorem dL_build_661 : decode cL_build 661 = .ok (.iload 7, 2) := by decide +kernel
theorem dL_build_663 : decode cL_build 663 = .ok (.if_icmp .eq 5, 3) := by decide +kernel
theorem dL_build_666 : decode cL_build 666 = .ok (.iconst 0, 1) := by decide +kernel
theorem dL_build_667 : decode cL_build 667 = .ok (.ireturn, 1) := by decide +kernel
theorem dL_build_668 : decode cL_build 668 = .ok (.iinc 7 1, 3) := by decide +kernel
theorem dL_build_671 : decode cL_build 671 = .ok (.goto (-192), 3) := by decide +kernel
theorem dL_build_674 : decode cL_build 674 = .ok (.iconst 1, 1) := by decide +kernel
theorem dL_build_675 : decode cL_build 675 = .ok (.ireturn, 1) := by decide +kernel
theorem dL_law_0 : decode cL_law 0 = .ok (.new 20, 3) := by decide +kernel
theorem dL_law_3 : decode cL_law 3 = .ok (.dup, 1) := by decide +kernel
theorem dL_law_4 : decode cL_law 4 = .ok (.invokespecial 49, 3) := by decide +kernel
theorem dL_law_7 : decode cL_law 7 = .ok (.astore_n 1, 1) := by decide +kernel
theorem dL_law_8 : decode cL_law 8 = .ok (.iconst 3, 1) := by decide +kernel
theorem dL_law_9 : decode cL_law 9 = .ok (.newarray .int, 2) := by decide +kernel
theorem dL_law_11 : decode cL_law 11 = .ok (.astore_n 2, 1) := by decide +kernel
theorem dL_law_12 : decode cL_law 12 = .ok (.bipush 24, 2) := by decide +kernel
theorem dL_law_14 : decode cL_law 14 = .ok (.newarray .int, 2) := by decide +kernel
theorem dL_law_16 : decode cL_law 16 = .ok (.astore_n 3, 1) := by decide +kernel
theorem dL_law_17 : decode cL_law 17 = .ok (.bipush 48, 2) := by decide +kernel
theorem dL_law_19 : decode cL_law 19 = .ok (.newarray .int, 2) := by decide +kernel
theorem dL_law_21 : decode cL_law 21 = .ok (.astore 4, 2) := by decide +kernel
theorem dL_law_23 : decode cL_law 23 = .ok (.bipush 20, 2) := by decide +kernel
theorem dL_law_25 : decode cL_law 25 = .ok (.newarray .int, 2) := by decide +kernel
theorem dL_law_27 : decode cL_law 27 = .ok (.astore 5, 2) := by decide +kernel
theorem dL_law_29 : decode cL_law 29 = .ok (.aload_n 1, 1) := by decide +kernel
theorem dL_law_30 : decode cL_law 30 = .ok (.aload_n 0, 1) := by decide +kernel
theorem dL_law_31 : decode cL_law 31 = .ok (.iconst 0, 1) := by decide +kernel
theorem dL_law_32 : decode cL_law 32 = .ok (.aload_n 2, 1) := by decide +kernel
theorem dL_law_33 : decode cL_law 33 = .ok (.aload_n 3, 1) := by decide +kernel
theorem dL_law_34 : decode cL_law 34 = .ok (.aload 4, 2) := by decide +kernel
theorem dL_law_36 : decode cL_law 36 = .ok (.aload 5, 2) := by decide +kernel
theorem dL_law_38 : decode cL_law 38 = .ok (.invokestatic 50, 3) := by decide +kernel
theorem dL_law_41 : decode cL_law 41 = .ok (.ifCond .ne 5, 3) := by decide +kernel
theorem dL_law_44 : decode cL_law 44 = .ok (.iconst 0, 1) := by decide +kernel
theorem dL_law_45 : decode cL_law 45 = .ok (.ireturn, 1) := by decide +kernel
theorem dL_law_46 : decode cL_law 46 = .ok (.iconst 0, 1) := by decide +kernel
theorem dL_law_47 : decode cL_law 47 = .ok (.istore 6, 2) := by decide +kernel
theorem dL_law_49 : decode cL_law 49 = .ok (.iconst 0, 1) := by decide +kernel
theorem dL_law_50 : decode cL_law 50 = .ok (.istore 7, 2) := by decide +kernel
theorem dL_law_52 : decode cL_law 52 = .ok (.iload 7, 2) := by decide +kernel
theorem dL_law_54 : decode cL_law 54 = .ok (.bipush 40, 2) := by decide +kernel
theorem dL_law_56 : decode cL_law 56 = .ok (.if_icmp .ge 465, 3) := by decide +kernel
theorem dL_law_59 : decode cL_law 59 = .ok (.aload_n 0, 1) := by decide +kernel
theorem dL_law_60 : decode cL_law 60 = .ok (.bipush 11, 2) := by decide +kernel
theorem dL_law_62 : decode cL_law 62 = .ok (.iload 7, 2) := by decide +kernel
theorem dL_law_64 : decode cL_law 64 = .ok (.bipush 9, 2) := by decide +kernel
theorem dL_law_66 : decode cL_law 66 = .ok (.irem, 1) := by decide +kernel
theorem dL_law_67 : decode cL_law 67 = .ok (.iadd, 1) := by decide +kernel
theorem dL_law_68 : decode cL_law 68 = .ok (.invokestatic 9, 3) := by decide +kernel
theorem dL_law_71 : decode cL_law 71 = .ok (.iload 7, 2) := by decide +kernel
theorem dL_law_73 : decode cL_law 73 = .ok (.bipush 9, 2) := by decide +kernel
theorem dL_law_75 : decode cL_law 75 = .ok (.idiv, 1) := by decide +kernel
theorem dL_law_76 : decode cL_law 76 = .ok (.bipush 6, 2) := by decide +kernel
theorem dL_law_78 : decode cL_law 78 = .ok (.imul, 1) := by decide +kernel
theorem dL_law_79 : decode cL_law 79 = .ok (.ishr, 1) := by decide +kernel
theorem dL_law_80 : decode cL_law 80 = .ok (.istore 8, 2) := by decide +kernel
theorem dL_law_82 : decode cL_law 82 = .ok (.iload 8, 2) := by decide +kernel
theorem dL_law_84 : decode cL_law 84 = .ok (.aload_n 2, 1) := by decide +kernel
theorem dL_law_85 : decode cL_law 85 = .ok (.iconst 2, 1) := by decide +kernel
theorem dL_law_86 : decode cL_law 86 = .ok (.iaload, 1) := by decide +kernel
theorem dL_law_87 : decode cL_law 87 = .ok (.invokestatic 15, 3) := by decide +kernel
theorem dL_law_90 : decode cL_law 90 = .ok (.istore 9, 2) := by decide +kernel
theorem dL_law_92 : decode cL_law 92 = .ok (.iload 8, 2) := by decide +kernel
theorem dL_law_94 : decode cL_law 94 = .ok (.iconst 2, 1) := by decide +kernel
theorem dL_law_95 : decode cL_law 95 = .ok (.ishr, 1) := by decide +kernel
theorem dL_law_96 : decode cL_law 96 = .ok (.bipush 8, 2) := by decide +kernel
theorem dL_law_98 : decode cL_law 98 = .ok (.invokestatic 15, 3) := by decide +kernel
theorem dL_law_101 : decode cL_law 101 = .ok (.istore 10, 2) := by decide +kernel
theorem dL_law_103 : decode cL_law 103 = .ok (.iload 10, 2) := by decide +kernel
theorem dL_law_105 : decode cL_law 105 = .ok (.ifCond .ne 22, 3) := by decide +kernel
theorem dL_law_108 : decode cL_law 108 = .ok (.aload_n 1, 1) := by decide +kernel
theorem dL_law_109 : decode cL_law 109 = .ok (.iconst 1, 1) := by decide +kernel
theorem dL_law_110 : decode cL_law 110 = .ok (.iload 8, 2) := by decide +kernel
theorem dL_law_112 : decode cL_law 112 = .ok (.iconst 4, 1) := by decide +kernel
theorem dL_law_113 : decode cL_law 113 = .ok (.ishr, 1) := by decide +kernel
theorem dL_law_114 : decode cL_law 114 = .ok (.bipush 40, 2) := by decide +kernel
theorem dL_law_116 : decode cL_law 116 = .ok (.invokestatic 15, 3) := by decide +kernel
theorem dL_law_119 : decode cL_law 119 = .ok (.iadd, 1) := by decide +kernel
theorem dL_law_120 : decode cL_law 120 = .ok (.invokevirtual 54, 3) := by decide +kernel
theorem dL_law_123 : decode cL_law 123 = .ok (.pop, 1) := by decide +kernel
theorem dL_law_124 : decode cL_law 124 = .ok (.goto 78, 3) := by decide +kernel
theorem dL_law_127 : decode cL_law 127 = .ok (.iload 10, 2) := by decide +kernel
theorem dL_law_129 : decode cL_law 129 = .ok (.iconst 1, 1) := by decide +kernel
theorem dL_law_130 : decode cL_law 130 = .ok (.if_icmp .ne 26, 3) := by decide +kernel
theorem dL_law_133 : decode cL_law 133 = .ok (.iload 8, 2) := by decide +kernel
theorem dL_law_135 : decode cL_law 135 = .ok (.iconst 4, 1) := by decide +kernel
theorem dL_law_136 : decode cL_law 136 = .ok (.ishr, 1) := by decide +kernel
theorem dL_law_137 : decode cL_law 137 = .ok (.iconst 3, 1) := by decide +kernel
theorem dL_law_138 : decode cL_law 138 = .ok (.invokestatic 15, 3) := by decide +kernel
theorem dL_law_141 : decode cL_law 141 = .ok (.ifCond .ne 15, 3) := by decide +kernel
theorem dL_law_144 : decode cL_law 144 = .ok (.aload_n 1, 1) := by decide +kernel
theorem dL_law_145 : decode cL_law 145 = .ok (.iconst 1, 1) := by decide +kernel
theorem dL_law_146 : decode cL_law 146 = .ok (.invokevirtual 57, 3) := by decide +kernel
theorem dL_law_149 : decode cL_law 149 = .ok (.pop, 1) := by decide +kernel
theorem dL_law_150 : decode cL_law 150 = .ok (.iconst 1, 1) := by decide +kernel
theorem dL_law_151 : decode cL_law 151 = .ok (.istore 6, 2) := by decide +kernel
theorem dL_law_153 : decode cL_law 153 = .ok (.goto 49, 3) := by decide +kernel
theorem dL_law_156 : decode cL_law 156 = .ok (.iload 10, 2) := by decide +kernel
theorem dL_law_158 : decode cL_law 158 = .ok (.iconst 2, 1) := by decide +kernel
theorem dL_law_159 : decode cL_law 159 = .ok (.if_icmp .ne 20, 3) := by decide +kernel
theorem dL_law_162 : decode cL_law 162 = .ok (.aload_n 1, 1) := by decide +kernel
theorem dL_law_163 : decode cL_law 163 = .ok (.iconst 0, 1) := by decide +kernel
theorem dL_law_164 : decode cL_law 164 = .ok (.invokevirtual 57, 3) := by decide +kernel
theorem dL_law_167 : decode cL_law 167 = .ok (.pop, 1) := by decide +kernel
theorem dL_law_168 : decode cL_law 168 = .ok (.aload_n 1, 1) := by decide +kernel
theorem dL_law_169 : decode cL_law 169 = .ok (.iload 9, 2) := by decide +kernel
theorem dL_law_171 : decode cL_law 171 = .ok (.iconst 0, 1) := by decide +kernel
theorem dL_law_172 : decode cL_law 172 = .ok (.invokevirtual 61, 3) := by decide +kernel
theorem dL_law_175 : decode cL_law 175 = .ok (.pop, 1) := by decide +kernel
theorem dL_law_176 : decode cL_law 176 = .ok (.goto 26, 3) := by decide +kernel
theorem dL_law_179 : decode cL_law 179 = .ok (.aload_n 2, 1) := by decide +kernel
theorem dL_law_180 : decode cL_law 180 = .ok (.iconst 1, 1) := by decide +kernel
theorem dL_law_181 : decode cL_law 181 = .ok (.iaload, 1) := by decide +kernel
theorem dL_law_182 : decode cL_law 182 = .ok (.ifCond .le 20, 3) := by decide +kernel
theorem dL_law_185 : decode cL_law 185 = .ok (.aload_n 1, 1) := by decide +kernel
theorem dL_law_186 : decode cL_law 186 = .ok (.iload 9, 2) := by decide +kernel
theorem dL_law_188 : decode cL_law 188 = .ok (.iload 8, 2) := by decide +kernel
theorem dL_law_190 : decode cL_law 190 = .ok (.iconst 3, 1) := by decide +kernel
theorem dL_law_191 : decode cL_law 191 = .ok (.ishr, 1) := by decide +kernel
theorem dL_law_192 : decode cL_law 192 = .ok (.aload_n 2, 1) := by decide +kernel
theorem dL_law_193 : decode cL_law 193 = .ok (.iconst 1, 1) := by decide +kernel
theorem dL_law_194 : decode cL_law 194 = .ok (.iaload, 1) := by decide +kernel
theorem dL_law_195 : decode cL_law 195 = .ok (.invokestatic 15, 3) := by decide +kernel
theorem dL_law_198 : decode cL_law 198 = .ok (.invokevirtual 65, 3) := by decide +kernel
theorem dL_law_201 : decode cL_law 201 = .ok (.pop, 1) := by decide +kernel
theorem dL_law_202 : decode cL_law 202 = .ok (.iconst 0, 1) := by decide +kernel
theorem dL_law_203 : decode cL_law 203 = .ok (.istore 11, 2) := by decide +kernel
theorem dL_law_205 : decode cL_law 205 = .ok (.iconst 0, 1) := by decide +kernel
theorem dL_law_206 : decode cL_law 206 = .ok (.istore 12, 2) := by decide +kernel
theorem dL_law_208 : decode cL_law 208 = .ok (.iload 12, 2) := by decide +kernel
theorem dL_law_210 : decode cL_law 210 = .ok (.aload_n 2, 1) := by decide +kernel
theorem dL_law_211 : decode cL_law 211 = .ok (.iconst 0, 1) := by decide +kernel
theorem dL_law_212 : decode cL_law 212 = .ok (.iaload, 1) := by decide +kernel
theorem dL_law_213 : decode cL_law 213 = .ok (.if_icmp .ge 100, 3) := by decide +kernel
theorem dL_law_216 : decode cL_law 216 = .ok (.aload_n 1, 1) := by decide +kernel
theorem dL_law_217 : decode cL_law 217 = .ok (.iload 12, 2) := by decide +kernel
theorem dL_law_219 : decode cL_law 219 = .ok (.invokevirtual 68, 3) := by decide +kernel
theorem dL_law_222 : decode cL_law 222 = .ok (.istore 13, 2) := by decide +kernel
theorem dL_law_224 : decode cL_law 224 = .ok (.iload 11, 2) := by decide +kernel
theorem dL_law_226 : decode cL_law 226 = .ok (.iload 13, 2) := by decide +kernel
theorem dL_law_228 : decode cL_law 228 = .ok (.iand, 1) := by decide +kernel
theorem dL_law_229 : decode cL_law 229 = .ok (.ifCond .ne 27, 3) := by decide +kernel
theorem dL_law_232 : decode cL_law 232 = .ok (.iload 12, 2) := by decide +kernel
theorem dL_law_234 : decode cL_law 234 = .ok (.ifCond .le 24, 3) := by decide +kernel
theorem dL_law_237 : decode cL_law 237 = .ok (.iload 6, 2) := by decide +kernel
theorem dL_law_239 : decode cL_law 239 = .ok (.ifCond .ne 19, 3) := by decide +kernel
theorem dL_law_242 : decode cL_law 242 = .ok (.iload 13, 2) := by decide +kernel
theorem dL_law_244 : decode cL_law 244 = .ok (.invokestatic 71, 3) := by decide +kernel
theorem dL_law_247 : decode cL_law 247 = .ok (.aload_n 3, 1) := by decide +kernel
theorem dL_law_248 : decode cL_law 248 = .ok (.iconst 3, 1) := by decide +kernel
theorem dL_law_249 : decode cL_law 249 = .ok (.iload 12, 2) := by decide +kernel
theorem dL_law_251 : decode cL_law 251 = .ok (.imul, 1) := by decide +kernel
theorem dL_law_252 : decode cL_law 252 = .ok (.iaload, 1) := by decide +kernel
theorem dL_law_253 : decode cL_law 253 = .ok (.if_icmp .le 5, 3) := by decide +kernel
theorem dL_law_256 : decode cL_law 256 = .ok (.iconst 0, 1) := by decide +kernel
theorem dL_law_257 : decode cL_law 257 = .ok (.ireturn, 1) := by decide +kernel
theorem dL_law_258 : decode cL_law 258 = .ok (.iload 11, 2) := by decide +kernel
theorem dL_law_260 : decode cL_law 260 = .ok (.iload 13, 2) := by decide +kernel
theorem dL_law_262 : decode cL_law 262 = .ok (.ior, 1) := by decide +kernel
theorem dL_law_263 : decode cL_law 263 = .ok (.istore 11, 2) := by decide +kernel
theorem dL_law_265 : decode cL_law 265 = .ok (.iconst 0, 1) := by decide +kernel
theorem dL_law_266 : decode cL_law 266 = .ok (.istore 14, 2) := by decide +kernel
theorem dL_law_268 : decode cL_law 268 = .ok (.iload 14, 2) := by decide +kernel
theorem dL_law_270 : decode cL_law 270 = .ok (.aload_n 2, 1) := by decide +kernel
theorem dL_law_271 : decode cL_law 271 = .ok (.iconst 2, 1) := by decide +kernel
theorem dL_law_272 : decode cL_law 272 = .ok (.iaload, 1) := by decide +kernel
theorem dL_law_273 : decode cL_law 273 = .ok (.if_icmp .ge 34, 3) := by decide +kernel
theorem dL_law_276 : decode cL_law 276 = .ok (.iload 13, 2) := by decide +kernel
theorem dL_law_278 : decode cL_law 278 = .ok (.iload 14, 2) := by decide +kernel
theorem dL_law_280 : decode cL_law 280 = .ok (.ishr, 1) := by decide +kernel
theorem dL_law_281 : decode cL_law 281 = .ok (.iconst 1, 1) := by decide +kernel
theorem dL_law_282 : decode cL_law 282 = .ok (.iand, 1) := by decide +kernel
theorem dL_law_283 : decode cL_law 283 = .ok (.iconst 1, 1) := by decide +kernel
theorem dL_law_284 : decode cL_law 284 = .ok (.if_icmp .ne 17, 3) := by decide +kernel
theorem dL_law_287 : decode cL_law 287 = .ok (.aload_n 1, 1) := by decide +kernel
theorem dL_law_288 : decode cL_law 288 = .ok (.iload 14, 2) := by decide +kernel
theorem dL_law_290 : decode cL_law 290 = .ok (.iconst 0, 1) := by decide +kernel
theorem dL_law_291 : decode cL_law 291 = .ok (.invokevirtual 76, 3) := by decide +kernel
theorem dL_law_294 : decode cL_law 294 = .ok (.iload 12, 2) := by decide +kernel
theorem dL_law_296 : decode cL_law 296 = .ok (.if_icmp .eq 5, 3) := by decide +kernel
theorem dL_law_299 : decode cL_law 299 = .ok (.iconst 0, 1) := by decide +kernel
theorem dL_law_300 : decode cL_law 300 = .ok (.ireturn, 1) := by decide +kernel
theorem dL_law_301 : decode cL_law 301 = .ok (.iinc 14 1, 3) := by decide +kernel
theorem dL_law_304 : decode cL_law 304 = .ok (.goto (-36), 3) := by decide +kernel
theorem dL_law_307 : decode cL_law 307 = .ok (.iinc 12 1, 3) := by decide +kernel
theorem dL_law_310 : decode cL_law 310 = .ok (.goto (-102), 3) := by decide +kernel
theorem dL_law_313 : decode cL_law 313 = .ok (.iload 11, 2) := by decide +kernel
theorem dL_law_315 : decode cL_law 315 = .ok (.iconst 1, 1) := by decide +kernel
theorem dL_law_316 : decode cL_law 316 = .ok (.aload_n 2, 1) := by decide +kernel
theorem dL_law_317 : decode cL_law 317 = .ok (.iconst 2, 1) := by decide +kernel
theorem dL_law_318 : decode cL_law 318 = .ok (.iaload, 1) := by decide +kernel
theorem dL_law_319 : decode cL_law 319 = .ok (.ishl, 1) := by decide +kernel
theorem dL_law_320 : decode cL_law 320 = .ok (.iconst 1, 1) := by decide +kernel
theorem dL_law_321 : decode cL_law 321 = .ok (.isub, 1) := by decide +kernel
theorem dL_law_322 : decode cL_law 322 = .ok (.if_icmp .eq 5, 3) := by decide +kernel
theorem dL_law_325 : decode cL_law 325 = .ok (.iconst 0, 1) := by decide +kernel
theorem dL_law_326 : decode cL_law 326 = .ok (.ireturn, 1) := by decide +kernel
theorem dL_law_327 : decode cL_law 327 = .ok (.iconst 0, 1) := by decide +kernel
theorem dL_law_328 : decode cL_law 328 = .ok (.istore 12, 2) := by decide +kernel
theorem dL_law_330 : decode cL_law 330 = .ok (.iload 12, 2) := by decide +kernel
theorem dL_law_332 : decode cL_law 332 = .ok (.aload_n 2, 1) := by decide +kernel
theorem dL_law_333 : decode cL_law 333 = .ok (.iconst 1, 1) := by decide +kernel
theorem dL_law_334 : decode cL_law 334 = .ok (.iaload, 1) := by decide +kernel
theorem dL_law_335 : decode cL_law 335 = .ok (.if_icmp .ge 83, 3) := by decide +kernel
theorem dL_law_338 : decode cL_law 338 = .ok (.iload 6, 2) := by decide +kernel
theorem dL_law_340 : decode cL_law 340 = .ok (.ifCond .ne 78, 3) := by decide +kernel
theorem dL_law_343 : decode cL_law 343 = .ok (.iconst 0, 1) := by decide +kernel
theorem dL_law_344 : decode cL_law 344 = .ok (.istore 13, 2) := by decide +kernel
theorem dL_law_346 : decode cL_law 346 = .ok (.iload 13, 2) := by decide +kernel
theorem dL_law_348 : decode cL_law 348 = .ok (.iload 12, 2) := by decide +kernel
theorem dL_law_350 : decode cL_law 350 = .ok (.if_icmp .ge 62, 3) := by decide +kernel
theorem dL_law_353 : decode cL_law 353 = .ok (.aload_n 1, 1) := by decide +kernel
theorem dL_law_354 : decode cL_law 354 = .ok (.iload 12, 2) := by decide +kernel
theorem dL_law_356 : decode cL_law 356 = .ok (.invokevirtual 79, 3) := by decide +kernel
theorem dL_law_359 : decode cL_law 359 = .ok (.ifCond .le 47, 3) := by decide +kernel
theorem dL_law_362 : decode cL_law 362 = .ok (.aload_n 1, 1) := by decide +kernel
theorem dL_law_363 : decode cL_law 363 = .ok (.iload 13, 2) := by decide +kernel
theorem dL_law_365 : decode cL_law 365 = .ok (.invokevirtual 79, 3) := by decide +kernel
theorem dL_law_368 : decode cL_law 368 = .ok (.ifCond .le 38, 3) := by decide +kernel
theorem dL_law_371 : decode cL_law 371 = .ok (.aload 4, 2) := by decide +kernel
theorem dL_law_373 : decode cL_law 373 = .ok (.iconst 4, 1) := by decide +kernel
theorem dL_law_374 : decode cL_law 374 = .ok (.iload 12, 2) := by decide +kernel
theorem dL_law_376 : decode cL_law 376 = .ok (.imul, 1) := by decide +kernel
theorem dL_law_377 : decode cL_law 377 = .ok (.iconst 3, 1) := by decide +kernel
theorem dL_law_378 : decode cL_law 378 = .ok (.iadd, 1) := by decide +kernel
theorem dL_law_379 : decode cL_law 379 = .ok (.iaload, 1) := by decide +kernel
theorem dL_law_380 : decode cL_law 380 = .ok (.ifCond .le 26, 3) := by decide +kernel
theorem dL_law_383 : decode cL_law 383 = .ok (.aload 4, 2) := by decide +kernel
theorem dL_law_385 : decode cL_law 385 = .ok (.iconst 4, 1) := by decide +kernel
theorem dL_law_386 : decode cL_law 386 = .ok (.iload 12, 2) := by decide +kernel
theorem dL_law_388 : decode cL_law 388 = .ok (.imul, 1) := by decide +kernel
theorem dL_law_389 : decode cL_law 389 = .ok (.iconst 3, 1) := by decide +kernel
theorem dL_law_390 : decode cL_law 390 = .ok (.iadd, 1) := by decide +kernel
theorem dL_law_391 : decode cL_law 391 = .ok (.iaload, 1) := by decide +kernel
theorem dL_law_392 : decode cL_law 392 = .ok (.aload 4, 2) := by decide +kernel
theorem dL_law_394 : decode cL_law 394 = .ok (.iconst 4, 1) := by decide +kernel
theorem dL_law_395 : decode cL_law 395 = .ok (.iload 13, 2) := by decide +kernel
theorem dL_law_397 : decode cL_law 397 = .ok (.imul, 1) := by decide +kernel
theorem dL_law_398 : decode cL_law 398 = .ok (.iconst 3, 1) := by decide +kernel
theorem dL_law_399 : decode cL_law 399 = .ok (.iadd, 1) := by decide +kernel
theorem dL_law_400 : decode cL_law 400 = .ok (.iaload, 1) := by decide +kernel
theorem dL_law_401 : decode cL_law 401 = .ok (.if_icmp .ne 5, 3) := by decide +kernel
theorem dL_law_404 : decode cL_law 404 = .ok (.iconst 0, 1) := by decide +kernel
theorem dL_law_405 : decode cL_law 405 = .ok (.ireturn, 1) := by decide +kernel
theorem dL_law_406 : decode cL_law 406 = .ok (.iinc 13 1, 3) := by decide +kernel
theorem dL_law_409 : decode cL_law 409 = .ok (.goto (-63), 3) := by decide +kernel
theorem dL_law_412 : decode cL_law 412 = .ok (.iinc 12 1, 3) := by decide +kernel
theorem dL_law_415 : decode cL_law 415 = .ok (.goto (-85), 3) := by decide +kernel
theorem dL_law_418 : decode cL_law 418 = .ok (.iconst 0, 1) := by decide +kernel
theorem dL_law_419 : decode cL_law 419 = .ok (.istore 12, 2) := by decide +kernel
theorem dL_law_421 : decode cL_law 421 = .ok (.iconst 0, 1) := by decide +kernel
theorem dL_law_422 : decode cL_law 422 = .ok (.istore 13, 2) := by decide +kernel
theorem dL_law_424 : decode cL_law 424 = .ok (.iload 13, 2) := by decide +kernel
theorem dL_law_426 : decode cL_law 426 = .ok (.aload_n 2, 1) := by decide +kernel
theorem dL_law_427 : decode cL_law 427 = .ok (.iconst 0, 1) := by decide +kernel
theorem dL_law_428 : decode cL_law 428 = .ok (.iaload, 1) := by decide +kernel
theorem dL_law_429 : decode cL_law 429 = .ok (.if_icmp .ge 22, 3) := by decide +kernel
theorem dL_law_432 : decode cL_law 432 = .ok (.iload 12, 2) := by decide +kernel
theorem dL_law_434 : decode cL_law 434 = .ok (.aload_n 1, 1) := by decide +kernel
theorem dL_law_435 : decode cL_law 435 = .ok (.iload 9, 2) := by decide +kernel
theorem dL_law_437 : decode cL_law 437 = .ok (.iload 13, 2) := by decide +kernel
theorem dL_law_439 : decode cL_law 439 = .ok (.invokevirtual 82, 3) := by decide +kernel
theorem dL_law_442 : decode cL_law 442 = .ok (.iadd, 1) := by decide +kernel
theorem dL_law_443 : decode cL_law 443 = .ok (.istore 12, 2) := by decide +kernel
theorem dL_law_445 : decode cL_law 445 = .ok (.iinc 13 1, 3) := by decide +kernel
theorem dL_law_448 : decode cL_law 448 = .ok (.goto (-24), 3) := by decide +kernel
theorem dL_law_451 : decode cL_law 451 = .ok (.iload 12, 2) := by decide +kernel
theorem dL_law_453 : decode cL_law 453 = .ok (.aload_n 1, 1) := by decide +kernel
theorem dL_law_454 : decode cL_law 454 = .ok (.invokevirtual 85, 3) := by decide +kernel
theorem dL_law_457 : decode cL_law 457 = .ok (.if_icmp .ne 56, 3) := by decide +kernel
theorem dL_law_460 : decode cL_law 460 = .ok (.aload_n 1, 1) := by decide +kernel
theorem dL_law_461 : decode cL_law 461 = .ok (.iload 9, 2) := by decide +kernel
theorem dL_law_463 : decode cL_law 463 = .ok (.aload_n 1, 1) := by decide +kernel
theorem dL_law_464 : decode cL_law 464 = .ok (.invokevirtual 85, 3) := by decide +kernel
theorem dL_law_467 : decode cL_law 467 = .ok (.invokevirtual 89, 3) := by decide +kernel
theorem dL_law_470 : decode cL_law 470 = .ok (.aload_n 1, 1) := by decide +kernel
theorem dL_law_471 : decode cL_law 471 = .ok (.iload 9, 2) := by decide +kernel
theorem dL_law_473 : decode cL_law 473 = .ok (.iconst 0, 1) := by decide +kernel
theorem dL_law_474 : decode cL_law 474 = .ok (.invokevirtual 76, 3) := by decide +kernel
theorem dL_law_477 : decode cL_law 477 = .ok (.if_icmp .ne 36, 3) := by decide +kernel
theorem dL_law_480 : decode cL_law 480 = .ok (.aload_n 1, 1) := by decide +kernel
theorem dL_law_481 : decode cL_law 481 = .ok (.iload 9, 2) := by decide +kernel
theorem dL_law_483 : decode cL_law 483 = .ok (.iconst 4, 1) := by decide +kernel
theorem dL_law_484 : decode cL_law 484 = .ok (.invokevirtual 76, 3) := by decide +kernel
theorem dL_law_487 : decode cL_law 487 = .ok (.iconst 3, 1) := by decide +kernel
theorem dL_law_488 : decode cL_law 488 = .ok (.if_icmp .gt 25, 3) := by decide +kernel
theorem dL_law_491 : decode cL_law 491 = .ok (.aload_n 1, 1) := by decide +kernel
theorem dL_law_492 : decode cL_law 492 = .ok (.iload 9, 2) := by decide +kernel
theorem dL_law_494 : decode cL_law 494 = .ok (.iconst 4, 1) := by decide +kernel
theorem dL_law_495 : decode cL_law 495 = .ok (.invokevirtual 76, 3) := by decide +kernel
theorem dL_law_498 : decode cL_law 498 = .ok (.iconst 3, 1) := by decide +kernel
theorem dL_law_499 : decode cL_law 499 = .ok (.if_icmp .ne 16, 3) := by decide +kernel
theorem dL_law_502 : decode cL_law 502 = .ok (.aload_n 1, 1) := by decide +kernel
theorem dL_law_503 : decode cL_law 503 = .ok (.iload 9, 2) := by decide +kernel
theorem dL_law_505 : decode cL_law 505 = .ok (.iconst 3, 1) := by decide +kernel
theorem dL_law_506 : decode cL_law 506 = .ok (.invokevirtual 76, 3) := by decide +kernel
theorem dL_law_509 : decode cL_law 509 = .ok (.iconst 1, 1) := by decide +kernel
theorem dL_law_510 : decode cL_law 510 = .ok (.if_icmp .eq 5, 3) := by decide +kernel
theorem dL_law_513 : decode cL_law 513 = .ok (.iconst 0, 1) := by decide +kernel
theorem dL_law_514 : decode cL_law 514 = .ok (.ireturn, 1) := by decide +kernel
theorem dL_law_515 : decode cL_law 515 = .ok (.iinc 7 1, 3) := by decide +kernel
theorem dL_law_518 : decode cL_law 518 = .ok (.goto (-466), 3) := by decide +kernel
theorem dL_law_521 : decode cL_law 521 = .ok (.iconst 1, 1) := by decide +kernel
theorem dL_law_522 : decode cL_law 522 = .ok (.ireturn, 1) := by decide +kernel
