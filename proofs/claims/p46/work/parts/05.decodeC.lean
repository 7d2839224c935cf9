theorem dL_refuses_295 : decode cL_refuses 295 = .ok (.invokestatic 248, 3) := by decide +kernel
theorem dL_refuses_298 : decode cL_refuses 298 = .ok (.ldc 15, 2) := by decide +kernel
theorem dL_refuses_300 : decode cL_refuses 300 = .ok (.if_icmp .ne 142, 3) := by decide +kernel
theorem dL_refuses_303 : decode cL_refuses 303 = .ok (.aload_n 0, 1) := by decide +kernel
theorem dL_refuses_304 : decode cL_refuses 304 = .ok (.bipush 8, 2) := by decide +kernel
theorem dL_refuses_306 : decode cL_refuses 306 = .ok (.iload 4, 2) := by decide +kernel
theorem dL_refuses_308 : decode cL_refuses 308 = .ok (.iconst 0, 1) := by decide +kernel
theorem dL_refuses_309 : decode cL_refuses 309 = .ok (.iconst 0, 1) := by decide +kernel
theorem dL_refuses_310 : decode cL_refuses 310 = .ok (.invokestatic 248, 3) := by decide +kernel
theorem dL_refuses_313 : decode cL_refuses 313 = .ok (.ldc 15, 2) := by decide +kernel
theorem dL_refuses_315 : decode cL_refuses 315 = .ok (.if_icmp .ne 127, 3) := by decide +kernel
theorem dL_refuses_318 : decode cL_refuses 318 = .ok (.aload_n 0, 1) := by decide +kernel
theorem dL_refuses_319 : decode cL_refuses 319 = .ok (.bipush 8, 2) := by decide +kernel
theorem dL_refuses_321 : decode cL_refuses 321 = .ok (.iconst 0, 1) := by decide +kernel
theorem dL_refuses_322 : decode cL_refuses 322 = .ok (.iload_n 1, 1) := by decide +kernel
theorem dL_refuses_323 : decode cL_refuses 323 = .ok (.iconst 2, 1) := by decide +kernel
theorem dL_refuses_324 : decode cL_refuses 324 = .ok (.irem, 1) := by decide +kernel
theorem dL_refuses_325 : decode cL_refuses 325 = .ok (.ifCond .ne 7, 3) := by decide +kernel
theorem dL_refuses_328 : decode cL_refuses 328 = .ok (.iconst 0, 1) := by decide +kernel
theorem dL_refuses_329 : decode cL_refuses 329 = .ok (.goto 10, 3) := by decide +kernel
theorem dL_refuses_332 : decode cL_refuses 332 = .ok (.bipush 10, 2) := by decide +kernel
theorem dL_refuses_334 : decode cL_refuses 334 = .ok (.iload_n 1, 1) := by decide +kernel
theorem dL_refuses_335 : decode cL_refuses 335 = .ok (.bipush 9, 2) := by decide +kernel
theorem dL_refuses_337 : decode cL_refuses 337 = .ok (.irem, 1) := by decide +kernel
theorem dL_refuses_338 : decode cL_refuses 338 = .ok (.iadd, 1) := by decide +kernel
theorem dL_refuses_339 : decode cL_refuses 339 = .ok (.iconst 0, 1) := by decide +kernel
theorem dL_refuses_340 : decode cL_refuses 340 = .ok (.invokestatic 248, 3) := by decide +kernel
theorem dL_refuses_343 : decode cL_refuses 343 = .ok (.ldc 18, 2) := by decide +kernel
theorem dL_refuses_345 : decode cL_refuses 345 = .ok (.if_icmp .ne 97, 3) := by decide +kernel
theorem dL_refuses_348 : decode cL_refuses 348 = .ok (.aload_n 0, 1) := by decide +kernel
theorem dL_refuses_349 : decode cL_refuses 349 = .ok (.bipush 9, 2) := by decide +kernel
theorem dL_refuses_351 : decode cL_refuses 351 = .ok (.iload 4, 2) := by decide +kernel
theorem dL_refuses_353 : decode cL_refuses 353 = .ok (.iconst 0, 1) := by decide +kernel
theorem dL_refuses_354 : decode cL_refuses 354 = .ok (.iconst 0, 1) := by decide +kernel
theorem dL_refuses_355 : decode cL_refuses 355 = .ok (.invokestatic 248, 3) := by decide +kernel
theorem dL_refuses_358 : decode cL_refuses 358 = .ok (.ldc 15, 2) := by decide +kernel
theorem dL_refuses_360 : decode cL_refuses 360 = .ok (.if_icmp .ne 82, 3) := by decide +kernel
theorem dL_refuses_363 : decode cL_refuses 363 = .ok (.aload_n 0, 1) := by decide +kernel
theorem dL_refuses_364 : decode cL_refuses 364 = .ok (.bipush 11, 2) := by decide +kernel
theorem dL_refuses_366 : decode cL_refuses 366 = .ok (.iload 4, 2) := by decide +kernel
theorem dL_refuses_368 : decode cL_refuses 368 = .ok (.iconst 0, 1) := by decide +kernel
theorem dL_refuses_369 : decode cL_refuses 369 = .ok (.iconst 0, 1) := by decide +kernel
theorem dL_refuses_370 : decode cL_refuses 370 = .ok (.invokestatic 248, 3) := by decide +kernel
theorem dL_refuses_373 : decode cL_refuses 373 = .ok (.ldc 15, 2) := by decide +kernel
theorem dL_refuses_375 : decode cL_refuses 375 = .ok (.if_icmp .ne 67, 3) := by decide +kernel
theorem dL_refuses_378 : decode cL_refuses 378 = .ok (.aload_n 0, 1) := by decide +kernel
theorem dL_refuses_379 : decode cL_refuses 379 = .ok (.bipush 12, 2) := by decide +kernel
theorem dL_refuses_381 : decode cL_refuses 381 = .ok (.iload 5, 2) := by decide +kernel
theorem dL_refuses_383 : decode cL_refuses 383 = .ok (.iconst 0, 1) := by decide +kernel
theorem dL_refuses_384 : decode cL_refuses 384 = .ok (.iconst 0, 1) := by decide +kernel
theorem dL_refuses_385 : decode cL_refuses 385 = .ok (.invokestatic 248, 3) := by decide +kernel
theorem dL_refuses_388 : decode cL_refuses 388 = .ok (.ldc 15, 2) := by decide +kernel
theorem dL_refuses_390 : decode cL_refuses 390 = .ok (.if_icmp .ne 52, 3) := by decide +kernel
theorem dL_refuses_393 : decode cL_refuses 393 = .ok (.aload_n 0, 1) := by decide +kernel
theorem dL_refuses_394 : decode cL_refuses 394 = .ok (.bipush 13, 2) := by decide +kernel
theorem dL_refuses_396 : decode cL_refuses 396 = .ok (.iload 5, 2) := by decide +kernel
theorem dL_refuses_398 : decode cL_refuses 398 = .ok (.iconst 0, 1) := by decide +kernel
theorem dL_refuses_399 : decode cL_refuses 399 = .ok (.iconst 0, 1) := by decide +kernel
theorem dL_refuses_400 : decode cL_refuses 400 = .ok (.invokestatic 248, 3) := by decide +kernel
theorem dL_refuses_403 : decode cL_refuses 403 = .ok (.ldc 15, 2) := by decide +kernel
theorem dL_refuses_405 : decode cL_refuses 405 = .ok (.if_icmp .ne 37, 3) := by decide +kernel
theorem dL_refuses_408 : decode cL_refuses 408 = .ok (.aload_n 0, 1) := by decide +kernel
theorem dL_refuses_409 : decode cL_refuses 409 = .ok (.bipush 14, 2) := by decide +kernel
theorem dL_refuses_411 : decode cL_refuses 411 = .ok (.iload 5, 2) := by decide +kernel
theorem dL_refuses_413 : decode cL_refuses 413 = .ok (.iconst 0, 1) := by decide +kernel
theorem dL_refuses_414 : decode cL_refuses 414 = .ok (.iconst 0, 1) := by decide +kernel
theorem dL_refuses_415 : decode cL_refuses 415 = .ok (.invokestatic 248, 3) := by decide +kernel
theorem dL_refuses_418 : decode cL_refuses 418 = .ok (.ldc 15, 2) := by decide +kernel
theorem dL_refuses_420 : decode cL_refuses 420 = .ok (.if_icmp .ne 22, 3) := by decide +kernel
theorem dL_refuses_423 : decode cL_refuses 423 = .ok (.aload_n 0, 1) := by decide +kernel
theorem dL_refuses_424 : decode cL_refuses 424 = .ok (.bipush 15, 2) := by decide +kernel
theorem dL_refuses_426 : decode cL_refuses 426 = .ok (.iload 5, 2) := by decide +kernel
theorem dL_refuses_428 : decode cL_refuses 428 = .ok (.iconst 0, 1) := by decide +kernel
theorem dL_refuses_429 : decode cL_refuses 429 = .ok (.iconst 0, 1) := by decide +kernel
theorem dL_refuses_430 : decode cL_refuses 430 = .ok (.invokestatic 248, 3) := by decide +kernel
theorem dL_refuses_433 : decode cL_refuses 433 = .ok (.ldc 15, 2) := by decide +kernel
theorem dL_refuses_435 : decode cL_refuses 435 = .ok (.if_icmp .ne 7, 3) := by decide +kernel
theorem dL_refuses_438 : decode cL_refuses 438 = .ok (.iconst 1, 1) := by decide +kernel
theorem dL_refuses_439 : decode cL_refuses 439 = .ok (.goto 4, 3) := by decide +kernel
theorem dL_refuses_442 : decode cL_refuses 442 = .ok (.iconst 0, 1) := by decide +kernel
theorem dL_refuses_443 : decode cL_refuses 443 = .ok (.istore 7, 2) := by decide +kernel
theorem dL_refuses_445 : decode cL_refuses 445 = .ok (.iload 7, 2) := by decide +kernel
theorem dL_refuses_447 : decode cL_refuses 447 = .ok (.ifCond .eq 461, 3) := by decide +kernel
theorem dL_refuses_450 : decode cL_refuses 450 = .ok (.aload_n 0, 1) := by decide +kernel
theorem dL_refuses_451 : decode cL_refuses 451 = .ok (.iload 4, 2) := by decide +kernel
theorem dL_refuses_453 : decode cL_refuses 453 = .ok (.iload 6, 2) := by decide +kernel
theorem dL_refuses_455 : decode cL_refuses 455 = .ok (.invokestatic 252, 3) := by decide +kernel
theorem dL_refuses_458 : decode cL_refuses 458 = .ok (.ldc 15, 2) := by decide +kernel
theorem dL_refuses_460 : decode cL_refuses 460 = .ok (.if_icmp .ne 448, 3) := by decide +kernel
theorem dL_refuses_463 : decode cL_refuses 463 = .ok (.aload_n 0, 1) := by decide +kernel
theorem dL_refuses_464 : decode cL_refuses 464 = .ok (.iconst 0, 1) := by decide +kernel
theorem dL_refuses_465 : decode cL_refuses 465 = .ok (.iload 6, 2) := by decide +kernel
theorem dL_refuses_467 : decode cL_refuses 467 = .ok (.invokestatic 252, 3) := by decide +kernel
theorem dL_refuses_470 : decode cL_refuses 470 = .ok (.ldc 18, 2) := by decide +kernel
theorem dL_refuses_472 : decode cL_refuses 472 = .ok (.if_icmp .ne 436, 3) := by decide +kernel
theorem dL_refuses_475 : decode cL_refuses 475 = .ok (.aload_n 0, 1) := by decide +kernel
theorem dL_refuses_476 : decode cL_refuses 476 = .ok (.bipush 17, 2) := by decide +kernel
theorem dL_refuses_478 : decode cL_refuses 478 = .ok (.iload 4, 2) := by decide +kernel
theorem dL_refuses_480 : decode cL_refuses 480 = .ok (.iconst 0, 1) := by decide +kernel
theorem dL_refuses_481 : decode cL_refuses 481 = .ok (.iconst 0, 1) := by decide +kernel
theorem dL_refuses_482 : decode cL_refuses 482 = .ok (.invokestatic 248, 3) := by decide +kernel
theorem dL_refuses_485 : decode cL_refuses 485 = .ok (.ldc 15, 2) := by decide +kernel
theorem dL_refuses_487 : decode cL_refuses 487 = .ok (.if_icmp .ne 421, 3) := by decide +kernel
theorem dL_refuses_490 : decode cL_refuses 490 = .ok (.aload_n 0, 1) := by decide +kernel
theorem dL_refuses_491 : decode cL_refuses 491 = .ok (.bipush 17, 2) := by decide +kernel
theorem dL_refuses_493 : decode cL_refuses 493 = .ok (.iconst 0, 1) := by decide +kernel
theorem dL_refuses_494 : decode cL_refuses 494 = .ok (.iconst (-1), 1) := by decide +kernel
theorem dL_refuses_495 : decode cL_refuses 495 = .ok (.iload_n 1, 1) := by decide +kernel
theorem dL_refuses_496 : decode cL_refuses 496 = .ok (.bipush 9, 2) := by decide +kernel
theorem dL_refuses_498 : decode cL_refuses 498 = .ok (.irem, 1) := by decide +kernel
theorem dL_refuses_499 : decode cL_refuses 499 = .ok (.isub, 1) := by decide +kernel
theorem dL_refuses_500 : decode cL_refuses 500 = .ok (.iconst 0, 1) := by decide +kernel
theorem dL_refuses_501 : decode cL_refuses 501 = .ok (.invokestatic 248, 3) := by decide +kernel
theorem dL_refuses_504 : decode cL_refuses 504 = .ok (.ldc 15, 2) := by decide +kernel
theorem dL_refuses_506 : decode cL_refuses 506 = .ok (.if_icmp .ne 402, 3) := by decide +kernel
theorem dL_refuses_509 : decode cL_refuses 509 = .ok (.aload_n 0, 1) := by decide +kernel
theorem dL_refuses_510 : decode cL_refuses 510 = .ok (.bipush 18, 2) := by decide +kernel
theorem dL_refuses_512 : decode cL_refuses 512 = .ok (.iload 4, 2) := by decide +kernel
theorem dL_refuses_514 : decode cL_refuses 514 = .ok (.iconst 0, 1) := by decide +kernel
theorem dL_refuses_515 : decode cL_refuses 515 = .ok (.iconst 0, 1) := by decide +kernel
theorem dL_refuses_516 : decode cL_refuses 516 = .ok (.invokestatic 248, 3) := by decide +kernel
theorem dL_refuses_519 : decode cL_refuses 519 = .ok (.ldc 15, 2) := by decide +kernel
theorem dL_refuses_521 : decode cL_refuses 521 = .ok (.if_icmp .ne 387, 3) := by decide +kernel
theorem dL_refuses_524 : decode cL_refuses 524 = .ok (.aload_n 0, 1) := by decide +kernel
theorem dL_refuses_525 : decode cL_refuses 525 = .ok (.bipush 18, 2) := by decide +kernel
theorem dL_refuses_527 : decode cL_refuses 527 = .ok (.iconst 0, 1) := by decide +kernel
theorem dL_refuses_528 : decode cL_refuses 528 = .ok (.iconst (-1), 1) := by decide +kernel
theorem dL_refuses_529 : decode cL_refuses 529 = .ok (.iload_n 1, 1) := by decide +kernel
theorem dL_refuses_530 : decode cL_refuses 530 = .ok (.bipush 9, 2) := by decide +kernel
theorem dL_refuses_532 : decode cL_refuses 532 = .ok (.irem, 1) := by decide +kernel
theorem dL_refuses_533 : decode cL_refuses 533 = .ok (.isub, 1) := by decide +kernel
theorem dL_refuses_534 : decode cL_refuses 534 = .ok (.iconst 0, 1) := by decide +kernel
theorem dL_refuses_535 : decode cL_refuses 535 = .ok (.invokestatic 248, 3) := by decide +kernel
theorem dL_refuses_538 : decode cL_refuses 538 = .ok (.ldc 15, 2) := by decide +kernel
theorem dL_refuses_540 : decode cL_refuses 540 = .ok (.if_icmp .ne 368, 3) := by decide +kernel
theorem dL_refuses_543 : decode cL_refuses 543 = .ok (.aload_n 0, 1) := by decide +kernel
theorem dL_refuses_544 : decode cL_refuses 544 = .ok (.bipush 19, 2) := by decide +kernel
theorem dL_refuses_546 : decode cL_refuses 546 = .ok (.iload 4, 2) := by decide +kernel
theorem dL_refuses_548 : decode cL_refuses 548 = .ok (.iload 6, 2) := by decide +kernel
theorem dL_refuses_550 : decode cL_refuses 550 = .ok (.iconst 0, 1) := by decide +kernel
theorem dL_refuses_551 : decode cL_refuses 551 = .ok (.invokestatic 248, 3) := by decide +kernel
theorem dL_refuses_554 : decode cL_refuses 554 = .ok (.ldc 15, 2) := by decide +kernel
theorem dL_refuses_556 : decode cL_refuses 556 = .ok (.if_icmp .ne 352, 3) := by decide +kernel
theorem dL_refuses_559 : decode cL_refuses 559 = .ok (.aload_n 0, 1) := by decide +kernel
theorem dL_refuses_560 : decode cL_refuses 560 = .ok (.bipush 19, 2) := by decide +kernel
theorem dL_refuses_562 : decode cL_refuses 562 = .ok (.iconst 0, 1) := by decide +kernel
theorem dL_refuses_563 : decode cL_refuses 563 = .ok (.iload 6, 2) := by decide +kernel
theorem dL_refuses_565 : decode cL_refuses 565 = .ok (.iconst 0, 1) := by decide +kernel
theorem dL_refuses_566 : decode cL_refuses 566 = .ok (.invokestatic 248, 3) := by decide +kernel
theorem dL_refuses_569 : decode cL_refuses 569 = .ok (.ldc 18, 2) := by decide +kernel
theorem dL_refuses_571 : decode cL_refuses 571 = .ok (.if_icmp .ne 337, 3) := by decide +kernel
theorem dL_refuses_574 : decode cL_refuses 574 = .ok (.aload_n 0, 1) := by decide +kernel
theorem dL_refuses_575 : decode cL_refuses 575 = .ok (.bipush 20, 2) := by decide +kernel
theorem dL_refuses_577 : decode cL_refuses 577 = .ok (.iload 4, 2) := by decide +kernel
theorem dL_refuses_579 : decode cL_refuses 579 = .ok (.iload 6, 2) := by decide +kernel
theorem dL_refuses_581 : decode cL_refuses 581 = .ok (.iconst 0, 1) := by decide +kernel
theorem dL_refuses_582 : decode cL_refuses 582 = .ok (.invokestatic 248, 3) := by decide +kernel
theorem dL_refuses_585 : decode cL_refuses 585 = .ok (.ldc 15, 2) := by decide +kernel
theorem dL_refuses_587 : decode cL_refuses 587 = .ok (.if_icmp .ne 321, 3) := by decide +kernel
theorem dL_refuses_590 : decode cL_refuses 590 = .ok (.aload_n 0, 1) := by decide +kernel
theorem dL_refuses_591 : decode cL_refuses 591 = .ok (.bipush 20, 2) := by decide +kernel
theorem dL_refuses_593 : decode cL_refuses 593 = .ok (.iconst 0, 1) := by decide +kernel
theorem dL_refuses_594 : decode cL_refuses 594 = .ok (.iload 6, 2) := by decide +kernel
theorem dL_refuses_596 : decode cL_refuses 596 = .ok (.iconst 0, 1) := by decide +kernel
theorem dL_refuses_597 : decode cL_refuses 597 = .ok (.invokestatic 248, 3) := by decide +kernel
theorem dL_refuses_600 : decode cL_refuses 600 = .ok (.ldc 18, 2) := by decide +kernel
theorem dL_refuses_602 : decode cL_refuses 602 = .ok (.if_icmp .ne 306, 3) := by decide +kernel
theorem dL_refuses_605 : decode cL_refuses 605 = .ok (.aload_n 0, 1) := by decide +kernel
theorem dL_refuses_606 : decode cL_refuses 606 = .ok (.bipush 21, 2) := by decide +kernel
theorem dL_refuses_608 : decode cL_refuses 608 = .ok (.iload 4, 2) := by decide +kernel
theorem dL_refuses_610 : decode cL_refuses 610 = .ok (.iconst 0, 1) := by decide +kernel
theorem dL_refuses_611 : decode cL_refuses 611 = .ok (.iconst 0, 1) := by decide +kernel
theorem dL_refuses_612 : decode cL_refuses 612 = .ok (.invokestatic 248, 3) := by decide +kernel
theorem dL_refuses_615 : decode cL_refuses 615 = .ok (.ldc 15, 2) := by decide +kernel
theorem dL_refuses_617 : decode cL_refuses 617 = .ok (.if_icmp .ne 291, 3) := by decide +kernel
theorem dL_refuses_620 : decode cL_refuses 620 = .ok (.aload_n 0, 1) := by decide +kernel
theorem dL_refuses_621 : decode cL_refuses 621 = .ok (.bipush 22, 2) := by decide +kernel
theorem dL_refuses_623 : decode cL_refuses 623 = .ok (.iconst 0, 1) := by decide +kernel
theorem dL_refuses_624 : decode cL_refuses 624 = .ok (.iload 4, 2) := by decide +kernel
theorem dL_refuses_626 : decode cL_refuses 626 = .ok (.iconst 0, 1) := by decide +kernel
theorem dL_refuses_627 : decode cL_refuses 627 = .ok (.invokestatic 248, 3) := by decide +kernel
theorem dL_refuses_630 : decode cL_refuses 630 = .ok (.ldc 15, 2) := by decide +kernel
theorem dL_refuses_632 : decode cL_refuses 632 = .ok (.if_icmp .ne 276, 3) := by decide +kernel
theorem dL_refuses_635 : decode cL_refuses 635 = .ok (.aload_n 0, 1) := by decide +kernel
theorem dL_refuses_636 : decode cL_refuses 636 = .ok (.bipush 23, 2) := by decide +kernel
theorem dL_refuses_638 : decode cL_refuses 638 = .ok (.iload 4, 2) := by decide +kernel
theorem dL_refuses_640 : decode cL_refuses 640 = .ok (.iconst 0, 1) := by decide +kernel
theorem dL_refuses_641 : decode cL_refuses 641 = .ok (.iconst 0, 1) := by decide +kernel
theorem dL_refuses_642 : decode cL_refuses 642 = .ok (.invokestatic 248, 3) := by decide +kernel
theorem dL_refuses_645 : decode cL_refuses 645 = .ok (.ldc 15, 2) := by decide +kernel
theorem dL_refuses_647 : decode cL_refuses 647 = .ok (.if_icmp .ne 261, 3) := by decide +kernel
theorem dL_refuses_650 : decode cL_refuses 650 = .ok (.aload_n 0, 1) := by decide +kernel
theorem dL_refuses_651 : decode cL_refuses 651 = .ok (.bipush 24, 2) := by decide +kernel
theorem dL_refuses_653 : decode cL_refuses 653 = .ok (.iload 5, 2) := by decide +kernel
theorem dL_refuses_655 : decode cL_refuses 655 = .ok (.iconst 0, 1) := by decide +kernel
theorem dL_refuses_656 : decode cL_refuses 656 = .ok (.iconst 0, 1) := by decide +kernel
theorem dL_refuses_657 : decode cL_refuses 657 = .ok (.invokestatic 248, 3) := by decide +kernel
theorem dL_refuses_660 : decode cL_refuses 660 = .ok (.ldc 15, 2) := by decide +kernel
theorem dL_refuses_662 : decode cL_refuses 662 = .ok (.if_icmp .ne 246, 3) := by decide +kernel
theorem dL_refuses_665 : decode cL_refuses 665 = .ok (.aload_n 0, 1) := by decide +kernel
theorem dL_refuses_666 : decode cL_refuses 666 = .ok (.bipush 25, 2) := by decide +kernel
theorem dL_refuses_668 : decode cL_refuses 668 = .ok (.iload 5, 2) := by decide +kernel
theorem dL_refuses_670 : decode cL_refuses 670 = .ok (.iconst 0, 1) := by decide +kernel
theorem dL_refuses_671 : decode cL_refuses 671 = .ok (.iconst 0, 1) := by decide +kernel
theorem dL_refuses_672 : decode cL_refuses 672 = .ok (.invokestatic 248, 3) := by decide +kernel
theorem dL_refuses_675 : decode cL_refuses 675 = .ok (.ldc 15, 2) := by decide +kernel
theorem dL_refuses_677 : decode cL_refuses 677 = .ok (.if_icmp .ne 231, 3) := by decide +kernel
theorem dL_refuses_680 : decode cL_refuses 680 = .ok (.aload_n 0, 1) := by decide +kernel
theorem dL_refuses_681 : decode cL_refuses 681 = .ok (.bipush 26, 2) := by decide +kernel
theorem dL_refuses_683 : decode cL_refuses 683 = .ok (.iload 5, 2) := by decide +kernel
theorem dL_refuses_685 : decode cL_refuses 685 = .ok (.iconst 0, 1) := by decide +kernel
theorem dL_refuses_686 : decode cL_refuses 686 = .ok (.iconst 0, 1) := by decide +kernel
theorem dL_refuses_687 : decode cL_refuses 687 = .ok (.invokestatic 248, 3) := by decide +kernel
theorem dL_refuses_690 : decode cL_refuses 690 = .ok (.ldc 15, 2) := by decide +kernel
theorem dL_refuses_692 : decode cL_refuses 692 = .ok (.if_icmp .ne 216, 3) := by decide +kernel
theorem dL_refuses_695 : decode cL_refuses 695 = .ok (.aload_n 0, 1) := by decide +kernel
theorem dL_refuses_696 : decode cL_refuses 696 = .ok (.bipush 27, 2) := by decide +kernel
theorem dL_refuses_698 : decode cL_refuses 698 = .ok (.iload_n 1, 1) := by decide +kernel
theorem dL_refuses_699 : decode cL_refuses 699 = .ok (.iconst 2, 1) := by decide +kernel
theorem dL_refuses_700 : decode cL_refuses 700 = .ok (.irem, 1) := by decide +kernel
theorem dL_refuses_701 : decode cL_refuses 701 = .ok (.ifCond .ne 7, 3) := by decide +kernel
theorem dL_refuses_704 : decode cL_refuses 704 = .ok (.iconst (-1), 1) := by decide +kernel
theorem dL_refuses_705 : decode cL_refuses 705 = .ok (.goto 10, 3) := by decide +kernel
theorem dL_refuses_708 : decode cL_refuses 708 = .ok (.ldc 255, 2) := by decide +kernel
theorem dL_refuses_710 : decode cL_refuses 710 = .ok (.iload_n 1, 1) := by decide +kernel
theorem dL_refuses_711 : decode cL_refuses 711 = .ok (.bipush 9, 2) := by decide +kernel
theorem dL_refuses_713 : decode cL_refuses 713 = .ok (.irem, 1) := by decide +kernel
theorem dL_refuses_714 : decode cL_refuses 714 = .ok (.iadd, 1) := by decide +kernel
theorem dL_refuses_715 : decode cL_refuses 715 = .ok (.iconst 0, 1) := by decide +kernel
theorem dL_refuses_716 : decode cL_refuses 716 = .ok (.iconst 0, 1) := by decide +kernel
theorem dL_refuses_717 : decode cL_refuses 717 = .ok (.invokestatic 248, 3) := by decide +kernel
theorem dL_refuses_720 : decode cL_refuses 720 = .ok (.ldc 18, 2) := by decide +kernel
theorem dL_refuses_722 : decode cL_refuses 722 = .ok (.if_icmp .ne 186, 3) := by decide +kernel
theorem dL_refuses_725 : decode cL_refuses 725 = .ok (.aload_n 0, 1) := by decide +kernel
theorem dL_refuses_726 : decode cL_refuses 726 = .ok (.bipush 28, 2) := by decide +kernel
theorem dL_refuses_728 : decode cL_refuses 728 = .ok (.iload_n 1, 1) := by decide +kernel
theorem dL_refuses_729 : decode cL_refuses 729 = .ok (.iconst 2, 1) := by decide +kernel
theorem dL_refuses_730 : decode cL_refuses 730 = .ok (.irem, 1) := by decide +kernel
theorem dL_refuses_731 : decode cL_refuses 731 = .ok (.ifCond .ne 7, 3) := by decide +kernel
theorem dL_refuses_734 : decode cL_refuses 734 = .ok (.iconst (-1), 1) := by decide +kernel
theorem dL_refuses_735 : decode cL_refuses 735 = .ok (.goto 10, 3) := by decide +kernel
theorem dL_refuses_738 : decode cL_refuses 738 = .ok (.ldc 255, 2) := by decide +kernel
theorem dL_refuses_740 : decode cL_refuses 740 = .ok (.iload_n 1, 1) := by decide +kernel
theorem dL_refuses_741 : decode cL_refuses 741 = .ok (.bipush 9, 2) := by decide +kernel
theorem dL_refuses_743 : decode cL_refuses 743 = .ok (.irem, 1) := by decide +kernel
theorem dL_refuses_744 : decode cL_refuses 744 = .ok (.iadd, 1) := by decide +kernel
theorem dL_refuses_745 : decode cL_refuses 745 = .ok (.iconst 0, 1) := by decide +kernel
theorem dL_refuses_746 : decode cL_refuses 746 = .ok (.iconst 0, 1) := by decide +kernel
theorem dL_refuses_747 : decode cL_refuses 747 = .ok (.invokestatic 248, 3) := by decide +kernel
theorem dL_refuses_750 : decode cL_refuses 750 = .ok (.ldc 18, 2) := by decide +kernel
theorem dL_refuses_752 : decode cL_refuses 752 = .ok (.if_icmp .ne 156, 3) := by decide +kernel
theorem dL_refuses_755 : decode cL_refuses 755 = .ok (.aload_n 0, 1) := by decide +kernel
theorem dL_refuses_756 : decode cL_refuses 756 = .ok (.bipush 29, 2) := by decide +kernel
theorem dL_refuses_758 : decode cL_refuses 758 = .ok (.iload_n 1, 1) := by decide +kernel
theorem dL_refuses_759 : decode cL_refuses 759 = .ok (.iconst 2, 1) := by decide +kernel
theorem dL_refuses_760 : decode cL_refuses 760 = .ok (.irem, 1) := by decide +kernel
theorem dL_refuses_761 : decode cL_refuses 761 = .ok (.ifCond .ne 7, 3) := by decide +kernel
theorem dL_refuses_764 : decode cL_refuses 764 = .ok (.iconst (-1), 1) := by decide +kernel
theorem dL_refuses_765 : decode cL_refuses 765 = .ok (.goto 11, 3) := by decide +kernel
theorem dL_refuses_768 : decode cL_refuses 768 = .ok (.sipush 201, 3) := by decide +kernel
theorem dL_refuses_771 : decode cL_refuses 771 = .ok (.iload_n 1, 1) := by decide +kernel
theorem dL_refuses_772 : decode cL_refuses 772 = .ok (.bipush 9, 2) := by decide +kernel
theorem dL_refuses_774 : decode cL_refuses 774 = .ok (.irem, 1) := by decide +kernel
theorem dL_refuses_775 : decode cL_refuses 775 = .ok (.iadd, 1) := by decide +kernel
theorem dL_refuses_776 : decode cL_refuses 776 = .ok (.iconst 5, 1) := by decide +kernel
theorem dL_refuses_777 : decode cL_refuses 777 = .ok (.iconst 0, 1) := by decide +kernel
theorem dL_refuses_778 : decode cL_refuses 778 = .ok (.invokestatic 248, 3) := by decide +kernel
theorem dL_refuses_781 : decode cL_refuses 781 = .ok (.ldc 18, 2) := by decide +kernel
theorem dL_refuses_783 : decode cL_refuses 783 = .ok (.if_icmp .ne 125, 3) := by decide +kernel
theorem dL_refuses_786 : decode cL_refuses 786 = .ok (.aload_n 0, 1) := by decide +kernel
theorem dL_refuses_787 : decode cL_refuses 787 = .ok (.bipush 29, 2) := by decide +kernel
theorem dL_refuses_789 : decode cL_refuses 789 = .ok (.iconst 5, 1) := by decide +kernel
theorem dL_refuses_790 : decode cL_refuses 790 = .ok (.iload_n 1, 1) := by decide +kernel
theorem dL_refuses_791 : decode cL_refuses 791 = .ok (.iconst 2, 1) := by decide +kernel
theorem dL_refuses_792 : decode cL_refuses 792 = .ok (.irem, 1) := by decide +kernel
theorem dL_refuses_793 : decode cL_refuses 793 = .ok (.ifCond .ne 7, 3) := by decide +kernel
theorem dL_refuses_796 : decode cL_refuses 796 = .ok (.iconst (-1), 1) := by decide +kernel
theorem dL_refuses_797 : decode cL_refuses 797 = .ok (.goto 11, 3) := by decide +kernel
theorem dL_refuses_800 : decode cL_refuses 800 = .ok (.sipush 201, 3) := by decide +kernel
theorem dL_refuses_803 : decode cL_refuses 803 = .ok (.iload_n 1, 1) := by decide +kernel
theorem dL_refuses_804 : decode cL_refuses 804 = .ok (.bipush 9, 2) := by decide +kernel
theorem dL_refuses_806 : decode cL_refuses 806 = .ok (.irem, 1) := by decide +kernel
theorem dL_refuses_807 : decode cL_refuses 807 = .ok (.iadd, 1) := by decide +kernel
theorem dL_refuses_808 : decode cL_refuses 808 = .ok (.iconst 0, 1) := by decide +kernel
theorem dL_refuses_809 : decode cL_refuses 809 = .ok (.invokestatic 248, 3) := by decide +kernel
theorem dL_refuses_812 : decode cL_refuses 812 = .ok (.ldc 18, 2) := by decide +kernel
theorem dL_refuses_814 : decode cL_refuses 814 = .ok (.if_icmp .ne 94, 3) := by decide +kernel
theorem dL_refuses_817 : decode cL_refuses 817 = .ok (.aload_n 0, 1) := by decide +kernel
theorem dL_refuses_818 : decode cL_refuses 818 = .ok (.bipush 30, 2) := by decide +kernel
theorem dL_refuses_820 : decode cL_refuses 820 = .ok (.iload 4, 2) := by decide +kernel
theorem dL_refuses_822 : decode cL_refuses 822 = .ok (.iconst 0, 1) := by decide +kernel
theorem dL_refuses_823 : decode cL_refuses 823 = .ok (.iconst 0, 1) := by decide +kernel
theorem dL_refuses_824 : decode cL_refuses 824 = .ok (.invokestatic 248, 3) := by decide +kernel
theorem dL_refuses_827 : decode cL_refuses 827 = .ok (.ldc 15, 2) := by decide +kernel
theorem dL_refuses_829 : decode cL_refuses 829 = .ok (.if_icmp .ne 79, 3) := by decide +kernel
theorem dL_refuses_832 : decode cL_refuses 832 = .ok (.aload_n 0, 1) := by decide +kernel
theorem dL_refuses_833 : decode cL_refuses 833 = .ok (.bipush 31, 2) := by decide +kernel
theorem dL_refuses_835 : decode cL_refuses 835 = .ok (.iload 5, 2) := by decide +kernel
theorem dL_refuses_837 : decode cL_refuses 837 = .ok (.iload 6, 2) := by decide +kernel
theorem dL_refuses_839 : decode cL_refuses 839 = .ok (.iconst 0, 1) := by decide +kernel
theorem dL_refuses_840 : decode cL_refuses 840 = .ok (.invokestatic 248, 3) := by decide +kernel
theorem dL_refuses_843 : decode cL_refuses 843 = .ok (.ldc 15, 2) := by decide +kernel
theorem dL_refuses_845 : decode cL_refuses 845 = .ok (.if_icmp .ne 63, 3) := by decide +kernel
theorem dL_refuses_848 : decode cL_refuses 848 = .ok (.aload_n 0, 1) := by decide +kernel
theorem dL_refuses_849 : decode cL_refuses 849 = .ok (.bipush 32, 2) := by decide +kernel
theorem dL_refuses_851 : decode cL_refuses 851 = .ok (.iconst 2, 1) := by decide +kernel
theorem dL_refuses_852 : decode cL_refuses 852 = .ok (.iload_n 1, 1) := by decide +kernel
theorem dL_refuses_853 : decode cL_refuses 853 = .ok (.bipush 50, 2) := by decide +kernel
theorem dL_refuses_855 : decode cL_refuses 855 = .ok (.irem, 1) := by decide +kernel
theorem dL_refuses_856 : decode cL_refuses 856 = .ok (.iadd, 1) := by decide +kernel
theorem dL_refuses_857 : decode cL_refuses 857 = .ok (.iconst 0, 1) := by decide +kernel
theorem dL_refuses_858 : decode cL_refuses 858 = .ok (.iconst 0, 1) := by decide +kernel
theorem dL_refuses_859 : decode cL_refuses 859 = .ok (.invokestatic 248, 3) := by decide +kernel
theorem dL_refuses_862 : decode cL_refuses 862 = .ok (.ldc 15, 2) := by decide +kernel
theorem dL_refuses_864 : decode cL_refuses 864 = .ok (.if_icmp .ne 44, 3) := by decide +kernel
theorem dL_refuses_867 : decode cL_refuses 867 = .ok (.aload_n 0, 1) := by decide +kernel
theorem dL_refuses_868 : decode cL_refuses 868 = .ok (.bipush 33, 2) := by decide +kernel
theorem dL_refuses_870 : decode cL_refuses 870 = .ok (.iconst (-1), 1) := by decide +kernel
theorem dL_refuses_871 : decode cL_refuses 871 = .ok (.iload_n 1, 1) := by decide +kernel
theorem dL_refuses_872 : decode cL_refuses 872 = .ok (.bipush 9, 2) := by decide +kernel
theorem dL_refuses_874 : decode cL_refuses 874 = .ok (.irem, 1) := by decide +kernel
theorem dL_refuses_875 : decode cL_refuses 875 = .ok (.isub, 1) := by decide +kernel
theorem dL_refuses_876 : decode cL_refuses 876 = .ok (.iconst 0, 1) := by decide +kernel
theorem dL_refuses_877 : decode cL_refuses 877 = .ok (.iconst 0, 1) := by decide +kernel
theorem dL_refuses_878 : decode cL_refuses 878 = .ok (.invokestatic 248, 3) := by decide +kernel
theorem dL_refuses_881 : decode cL_refuses 881 = .ok (.ldc 15, 2) := by decide +kernel
theorem dL_refuses_883 : decode cL_refuses 883 = .ok (.if_icmp .ne 25, 3) := by decide +kernel
theorem dL_refuses_886 : decode cL_refuses 886 = .ok (.aload_n 0, 1) := by decide +kernel
theorem dL_refuses_887 : decode cL_refuses 887 = .ok (.iload_n 1, 1) := by decide +kernel
theorem dL_refuses_888 : decode cL_refuses 888 = .ok (.i2l, 1) := by decide +kernel
theorem dL_refuses_889 : decode cL_refuses 889 = .ok (.bipush 61, 2) := by decide +kernel
theorem dL_refuses_891 : decode cL_refuses 891 = .ok (.iload_n 1, 1) := by decide +kernel
theorem dL_refuses_892 : decode cL_refuses 892 = .ok (.bipush 9, 2) := by decide +kernel
theorem dL_refuses_894 : decode cL_refuses 894 = .ok (.irem, 1) := by decide +kernel
theorem dL_refuses_895 : decode cL_refuses 895 = .ok (.iadd, 1) := by decide +kernel
theorem dL_refuses_896 : decode cL_refuses 896 = .ok (.invokestatic 256, 3) := by decide +kernel
theorem dL_refuses_899 : decode cL_refuses 899 = .ok (.ldc 18, 2) := by decide +kernel
theorem dL_refuses_901 : decode cL_refuses 901 = .ok (.if_icmp .ne 7, 3) := by decide +kernel
theorem dL_refuses_904 : decode cL_refuses 904 = .ok (.iconst 1, 1) := by decide +kernel
theorem dL_refuses_905 : decode cL_refuses 905 = .ok (.goto 4, 3) := by decide +kernel
theorem dL_refuses_908 : decode cL_refuses 908 = .ok (.iconst 0, 1) := by decide +kernel
theorem dL_refuses_909 : decode cL_refuses 909 = .ok (.istore 7, 2) := by decide +kernel
theorem dL_refuses_911 : decode cL_refuses 911 = .ok (.iload_n 3, 1) := by decide +kernel
theorem dL_refuses_912 : decode cL_refuses 912 = .ok (.ifCond .le 96, 3) := by decide +kernel
theorem dL_refuses_915 : decode cL_refuses 915 = .ok (.iload 7, 2) := by decide +kernel
theorem dL_refuses_917 : decode cL_refuses 917 = .ok (.ifCond .eq 91, 3) := by decide +kernel
theorem dL_refuses_920 : decode cL_refuses 920 = .ok (.iload_n 1, 1) := by decide +kernel
theorem dL_refuses_921 : decode cL_refuses 921 = .ok (.iload_n 3, 1) := by decide +kernel
theorem dL_refuses_922 : decode cL_refuses 922 = .ok (.irem, 1) := by decide +kernel
theorem dL_refuses_923 : decode cL_refuses 923 = .ok (.istore 8, 2) := by decide +kernel
theorem dL_refuses_925 : decode cL_refuses 925 = .ok (.aload_n 0, 1) := by decide +kernel
theorem dL_refuses_926 : decode cL_refuses 926 = .ok (.bipush 13, 2) := by decide +kernel
theorem dL_refuses_928 : decode cL_refuses 928 = .ok (.iload 8, 2) := by decide +kernel
theorem dL_refuses_930 : decode cL_refuses 930 = .ok (.iload_n 1, 1) := by decide +kernel
theorem dL_refuses_931 : decode cL_refuses 931 = .ok (.iconst 2, 1) := by decide +kernel
theorem dL_refuses_932 : decode cL_refuses 932 = .ok (.irem, 1) := by decide +kernel
theorem dL_refuses_933 : decode cL_refuses 933 = .ok (.ifCond .ne 7, 3) := by decide +kernel
theorem dL_refuses_936 : decode cL_refuses 936 = .ok (.iconst 0, 1) := by decide +kernel
theorem dL_refuses_937 : decode cL_refuses 937 = .ok (.goto 10, 3) := by decide +kernel
theorem dL_refuses_940 : decode cL_refuses 940 = .ok (.bipush 100, 2) := by decide +kernel
theorem dL_refuses_942 : decode cL_refuses 942 = .ok (.iload_n 1, 1) := by decide +kernel
theorem dL_refuses_943 : decode cL_refuses 943 = .ok (.bipush 9, 2) := by decide +kernel
theorem dL_refuses_945 : decode cL_refuses 945 = .ok (.irem, 1) := by decide +kernel
theorem dL_refuses_946 : decode cL_refuses 946 = .ok (.iadd, 1) := by decide +kernel
theorem dL_refuses_947 : decode cL_refuses 947 = .ok (.iconst 0, 1) := by decide +kernel
theorem dL_refuses_948 : decode cL_refuses 948 = .ok (.invokestatic 248, 3) := by decide +kernel
theorem dL_refuses_951 : decode cL_refuses 951 = .ok (.ldc 18, 2) := by decide +kernel
theorem dL_refuses_953 : decode cL_refuses 953 = .ok (.if_icmp .ne 52, 3) := by decide +kernel
theorem dL_refuses_956 : decode cL_refuses 956 = .ok (.aload_n 0, 1) := by decide +kernel
theorem dL_refuses_957 : decode cL_refuses 957 = .ok (.bipush 31, 2) := by decide +kernel
theorem dL_refuses_959 : decode cL_refuses 959 = .ok (.iload 8, 2) := by decide +kernel
theorem dL_refuses_961 : decode cL_refuses 961 = .ok (.iload 6, 2) := by decide +kernel
theorem dL_refuses_963 : decode cL_refuses 963 = .ok (.iconst 0, 1) := by decide +kernel
theorem dL_refuses_964 : decode cL_refuses 964 = .ok (.invokestatic 248, 3) := by decide +kernel
theorem dL_refuses_967 : decode cL_refuses 967 = .ok (.ldc 18, 2) := by decide +kernel
theorem dL_refuses_969 : decode cL_refuses 969 = .ok (.if_icmp .ne 36, 3) := by decide +kernel
theorem dL_refuses_972 : decode cL_refuses 972 = .ok (.aload_n 0, 1) := by decide +kernel
theorem dL_refuses_973 : decode cL_refuses 973 = .ok (.bipush 26, 2) := by decide +kernel
theorem dL_refuses_975 : decode cL_refuses 975 = .ok (.iload 8, 2) := by decide +kernel
theorem dL_refuses_977 : decode cL_refuses 977 = .ok (.iconst 0, 1) := by decide +kernel
theorem dL_refuses_978 : decode cL_refuses 978 = .ok (.iconst 0, 1) := by decide +kernel
theorem dL_refuses_979 : decode cL_refuses 979 = .ok (.invokestatic 248, 3) := by decide +kernel
theorem dL_refuses_982 : decode cL_refuses 982 = .ok (.iconst (-1), 1) := by decide +kernel
theorem dL_refuses_983 : decode cL_refuses 983 = .ok (.if_icmp .ne 18, 3) := by decide +kernel
theorem dL_refuses_986 : decode cL_refuses 986 = .ok (.aload_n 0, 1) := by decide +kernel
theorem dL_refuses_987 : decode cL_refuses 987 = .ok (.bipush 12, 2) := by decide +kernel
theorem dL_refuses_989 : decode cL_refuses 989 = .ok (.iload 8, 2) := by decide +kernel
theorem dL_refuses_991 : decode cL_refuses 991 = .ok (.iconst 0, 1) := by decide +kernel
theorem dL_refuses_992 : decode cL_refuses 992 = .ok (.iconst 0, 1) := by decide +kernel
theorem dL_refuses_993 : decode cL_refuses 993 = .ok (.invokestatic 248, 3) := by decide +kernel
theorem dL_refuses_996 : decode cL_refuses 996 = .ok (.ldc 29, 2) := by decide +kernel
theorem dL_refuses_998 : decode cL_refuses 998 = .ok (.if_icmp .ne 7, 3) := by decide +kernel
theorem dL_refuses_1001 : decode cL_refuses 1001 = .ok (.iconst 1, 1) := by decide +kernel
theorem dL_refuses_1002 : decode cL_refuses 1002 = .ok (.goto 4, 3) := by decide +kernel
theorem dL_refuses_1005 : decode cL_refuses 1005 = .ok (.iconst 0, 1) := by decide +kernel
theorem dL_refuses_1006 : decode cL_refuses 1006 = .ok (.istore 7, 2) := by decide +kernel
theorem dL_refuses_1008 : decode cL_refuses 1008 = .ok (.iload 7, 2) := by decide +kernel
theorem dL_refuses_1010 : decode cL_refuses 1010 = .ok (.ifCond .eq 93, 3) := by decide +kernel
theorem dL_refuses_1013 : decode cL_refuses 1013 = .ok (.iload_n 2, 1) := by decide +kernel
theorem dL_refuses_1014 : decode cL_refuses 1014 = .ok (.bipush 12, 2) := by decide +kernel
theorem dL_refuses_1016 : decode cL_refuses 1016 = .ok (.if_icmp .lt 43, 3) := by decide +kernel
theorem dL_refuses_1019 : decode cL_refuses 1019 = .ok (.aload_n 0, 1) := by decide +kernel
theorem dL_refuses_1020 : decode cL_refuses 1020 = .ok (.iconst 2, 1) := by decide +kernel
theorem dL_refuses_1021 : decode cL_refuses 1021 = .ok (.iconst 5, 1) := by decide +kernel
theorem dL_refuses_1022 : decode cL_refuses 1022 = .ok (.iconst 5, 1) := by decide +kernel
theorem dL_refuses_1023 : decode cL_refuses 1023 = .ok (.iconst 0, 1) := by decide +kernel
theorem dL_refuses_1024 : decode cL_refuses 1024 = .ok (.invokestatic 248, 3) := by decide +kernel
theorem dL_refuses_1027 : decode cL_refuses 1027 = .ok (.ldc 29, 2) := by decide +kernel
theorem dL_refuses_1029 : decode cL_refuses 1029 = .ok (.if_icmp .ne 74, 3) := by decide +kernel
theorem dL_refuses_1032 : decode cL_refuses 1032 = .ok (.aload_n 0, 1) := by decide +kernel
theorem dL_refuses_1033 : decode cL_refuses 1033 = .ok (.bipush 7, 2) := by decide +kernel
theorem dL_refuses_1035 : decode cL_refuses 1035 = .ok (.iconst 0, 1) := by decide +kernel
theorem dL_refuses_1036 : decode cL_refuses 1036 = .ok (.iconst 0, 1) := by decide +kernel
theorem dL_refuses_1037 : decode cL_refuses 1037 = .ok (.iconst 0, 1) := by decide +kernel
theorem dL_refuses_1038 : decode cL_refuses 1038 = .ok (.invokestatic 248, 3) := by decide +kernel
theorem dL_refuses_1041 : decode cL_refuses 1041 = .ok (.ldc 29, 2) := by decide +kernel
theorem dL_refuses_1043 : decode cL_refuses 1043 = .ok (.if_icmp .ne 60, 3) := by decide +kernel
theorem dL_refuses_1046 : decode cL_refuses 1046 = .ok (.aload_n 0, 1) := by decide +kernel
theorem dL_refuses_1047 : decode cL_refuses 1047 = .ok (.iconst 4, 1) := by decide +kernel
theorem dL_refuses_1048 : decode cL_refuses 1048 = .ok (.iconst 0, 1) := by decide +kernel
theorem dL_refuses_1049 : decode cL_refuses 1049 = .ok (.iconst 0, 1) := by decide +kernel
theorem dL_refuses_1050 : decode cL_refuses 1050 = .ok (.iconst 0, 1) := by decide +kernel
theorem dL_refuses_1051 : decode cL_refuses 1051 = .ok (.invokestatic 248, 3) := by decide +kernel
theorem dL_refuses_1054 : decode cL_refuses 1054 = .ok (.ldc 29, 2) := by decide +kernel
theorem dL_refuses_1056 : decode cL_refuses 1056 = .ok (.if_icmp .ne 47, 3) := by decide +kernel
theorem dL_refuses_1059 : decode cL_refuses 1059 = .ok (.iload_n 3, 1) := by decide +kernel
theorem dL_refuses_1060 : decode cL_refuses 1060 = .ok (.iconst 4, 1) := by decide +kernel
theorem dL_refuses_1061 : decode cL_refuses 1061 = .ok (.if_icmp .lt 17, 3) := by decide +kernel
theorem dL_refuses_1064 : decode cL_refuses 1064 = .ok (.aload_n 0, 1) := by decide +kernel
theorem dL_refuses_1065 : decode cL_refuses 1065 = .ok (.bipush 11, 2) := by decide +kernel
theorem dL_refuses_1067 : decode cL_refuses 1067 = .ok (.iconst 0, 1) := by decide +kernel
theorem dL_refuses_1068 : decode cL_refuses 1068 = .ok (.iconst 0, 1) := by decide +kernel
theorem dL_refuses_1069 : decode cL_refuses 1069 = .ok (.iconst 0, 1) := by decide +kernel
theorem dL_refuses_1070 : decode cL_refuses 1070 = .ok (.invokestatic 248, 3) := by decide +kernel
theorem dL_refuses_1073 : decode cL_refuses 1073 = .ok (.ldc 29, 2) := by decide +kernel
theorem dL_refuses_1075 : decode cL_refuses 1075 = .ok (.if_icmp .ne 28, 3) := by decide +kernel
theorem dL_refuses_1078 : decode cL_refuses 1078 = .ok (.aload_n 0, 1) := by decide +kernel
theorem dL_refuses_1079 : decode cL_refuses 1079 = .ok (.invokevirtual 260, 3) := by decide +kernel
theorem dL_refuses_1082 : decode cL_refuses 1082 = .ok (.ifCond .eq 17, 3) := by decide +kernel
theorem dL_refuses_1085 : decode cL_refuses 1085 = .ok (.aload_n 0, 1) := by decide +kernel
theorem dL_refuses_1086 : decode cL_refuses 1086 = .ok (.bipush 10, 2) := by decide +kernel
theorem dL_refuses_1088 : decode cL_refuses 1088 = .ok (.iconst 0, 1) := by decide +kernel
theorem dL_refuses_1089 : decode cL_refuses 1089 = .ok (.iconst 0, 1) := by decide +kernel
theorem dL_refuses_1090 : decode cL_refuses 1090 = .ok (.iconst 0, 1) := by decide +kernel
theorem dL_refuses_1091 : decode cL_refuses 1091 = .ok (.invokestatic 248, 3) := by decide +kernel
theorem dL_refuses_1094 : decode cL_refuses 1094 = .ok (.ldc 29, 2) := by decide +kernel
theorem dL_refuses_1096 : decode cL_refuses 1096 = .ok (.if_icmp .ne 7, 3) := by decide +kernel
theorem dL_refuses_1099 : decode cL_refuses 1099 = .ok (.iconst 1, 1) := by decide +kernel
theorem dL_refuses_1100 : decode cL_refuses 1100 = .ok (.goto 4, 3) := by decide +kernel
theorem dL_refuses_1103 : decode cL_refuses 1103 = .ok (.iconst 0, 1) := by decide +kernel
theorem dL_refuses_1104 : decode cL_refuses 1104 = .ok (.ireturn, 1) := by decide +kernel
theorem dL_holds_0 : decode cL_holds 0 = .ok (.aload_n 0, 1) := by decide +kernel
theorem dL_holds_1 : decode cL_holds 1 = .ok (.invokevirtual 242, 3) := by decide +kernel
theorem dL_holds_4 : decode cL_holds 4 = .ok (.istore_n 2, 1) := by decide +kernel
theorem dL_holds_5 : decode cL_holds 5 = .ok (.aload_n 0, 1) := by decide +kernel
theorem dL_holds_6 : decode cL_holds 6 = .ok (.invokevirtual 245, 3) := by decide +kernel
theorem dL_holds_9 : decode cL_holds 9 = .ok (.istore_n 3, 1) := by decide +kernel
theorem dL_holds_10 : decode cL_holds 10 = .ok (.iload_n 1, 1) := by decide +kernel
theorem dL_holds_11 : decode cL_holds 11 = .ok (.iload_n 2, 1) := by decide +kernel
theorem dL_holds_12 : decode cL_holds 12 = .ok (.irem, 1) := by decide +kernel
theorem dL_holds_13 : decode cL_holds 13 = .ok (.istore 4, 2) := by decide +kernel
theorem dL_holds_15 : decode cL_holds 15 = .ok (.iload_n 1, 1) := by decide +kernel
theorem dL_holds_16 : decode cL_holds 16 = .ok (.bipush 12, 2) := by decide +kernel
theorem dL_holds_18 : decode cL_holds 18 = .ok (.idiv, 1) := by decide +kernel
theorem dL_holds_19 : decode cL_holds 19 = .ok (.iload_n 2, 1) := by decide +kernel
theorem dL_holds_20 : decode cL_holds 20 = .ok (.irem, 1) := by decide +kernel
theorem dL_holds_21 : decode cL_holds 21 = .ok (.istore 5, 2) := by decide +kernel
theorem dL_holds_23 : decode cL_holds 23 = .ok (.aload_n 0, 1) := by decide +kernel
theorem dL_holds_24 : decode cL_holds 24 = .ok (.bipush 20, 2) := by decide +kernel
theorem dL_holds_26 : decode cL_holds 26 = .ok (.iload 4, 2) := by decide +kernel
theorem dL_holds_28 : decode cL_holds 28 = .ok (.sipush 999, 3) := by decide +kernel
theorem dL_holds_31 : decode cL_holds 31 = .ok (.iconst 0, 1) := by decide +kernel
theorem dL_holds_32 : decode cL_holds 32 = .ok (.invokestatic 248, 3) := by decide +kernel
theorem dL_holds_35 : decode cL_holds 35 = .ok (.istore 6, 2) := by decide +kernel
theorem dL_holds_37 : decode cL_holds 37 = .ok (.aload_n 0, 1) := by decide +kernel
theorem dL_holds_38 : decode cL_holds 38 = .ok (.bipush 20, 2) := by decide +kernel
theorem dL_holds_40 : decode cL_holds 40 = .ok (.iload 5, 2) := by decide +kernel
theorem dL_holds_42 : decode cL_holds 42 = .ok (.sipush 999, 3) := by decide +kernel
theorem dL_holds_45 : decode cL_holds 45 = .ok (.iconst 0, 1) := by decide +kernel
theorem dL_holds_46 : decode cL_holds 46 = .ok (.invokestatic 248, 3) := by decide +kernel
theorem dL_holds_49 : decode cL_holds 49 = .ok (.istore 7, 2) := by decide +kernel
theorem dL_holds_51 : decode cL_holds 51 = .ok (.aload_n 0, 1) := by decide +kernel
theorem dL_holds_52 : decode cL_holds 52 = .ok (.bipush 21, 2) := by decide +kernel
theorem dL_holds_54 : decode cL_holds 54 = .ok (.iload 4, 2) := by decide +kernel
theorem dL_holds_56 : decode cL_holds 56 = .ok (.iconst 0, 1) := by decide +kernel
theorem dL_holds_57 : decode cL_holds 57 = .ok (.iconst 0, 1) := by decide +kernel
theorem dL_holds_58 : decode cL_holds 58 = .ok (.invokestatic 248, 3) := by decide +kernel
theorem dL_holds_61 : decode cL_holds 61 = .ok (.istore 8, 2) := by decide +kernel
theorem dL_holds_63 : decode cL_holds 63 = .ok (.iload_n 2, 1) := by decide +kernel
theorem dL_holds_64 : decode cL_holds 64 = .ok (.bipush 12, 2) := by decide +kernel
theorem dL_holds_66 : decode cL_holds 66 = .ok (.if_icmp .gt 92, 3) := by decide +kernel
theorem dL_holds_69 : decode cL_holds 69 = .ok (.iload_n 3, 1) := by decide +kernel
theorem dL_holds_70 : decode cL_holds 70 = .ok (.iconst 4, 1) := by decide +kernel
theorem dL_holds_71 : decode cL_holds 71 = .ok (.if_icmp .gt 87, 3) := by decide +kernel
theorem dL_holds_74 : decode cL_holds 74 = .ok (.iload 6, 2) := by decide +kernel
theorem dL_holds_76 : decode cL_holds 76 = .ok (.ifCond .ne 7, 3) := by decide +kernel
theorem dL_holds_79 : decode cL_holds 79 = .ok (.iconst 1, 1) := by decide +kernel
theorem dL_holds_80 : decode cL_holds 80 = .ok (.goto 4, 3) := by decide +kernel
theorem dL_holds_83 : decode cL_holds 83 = .ok (.iconst 0, 1) := by decide +kernel
theorem dL_holds_84 : decode cL_holds 84 = .ok (.iload 8, 2) := by decide +kernel
theorem dL_holds_86 : decode cL_holds 86 = .ok (.iconst (-1), 1) := by decide +kernel
theorem dL_holds_87 : decode cL_holds 87 = .ok (.if_icmp .ne 7, 3) := by decide +kernel
theorem dL_holds_90 : decode cL_holds 90 = .ok (.iconst 1, 1) := by decide +kernel
theorem dL_holds_91 : decode cL_holds 91 = .ok (.goto 4, 3) := by decide +kernel
theorem dL_holds_94 : decode cL_holds 94 = .ok (.iconst 0, 1) := by decide +kernel
theorem dL_holds_95 : decode cL_holds 95 = .ok (.if_icmp .ne 63, 3) := by decide +kernel
theorem dL_holds_98 : decode cL_holds 98 = .ok (.aload_n 0, 1) := by decide +kernel
theorem dL_holds_99 : decode cL_holds 99 = .ok (.bipush 17, 2) := by decide +kernel
theorem dL_holds_101 : decode cL_holds 101 = .ok (.iload 4, 2) := by decide +kernel
theorem dL_holds_103 : decode cL_holds 103 = .ok (.iload 6, 2) := by decide +kernel
theorem dL_holds_105 : decode cL_holds 105 = .ok (.iconst 0, 1) := by decide +kernel
theorem dL_holds_106 : decode cL_holds 106 = .ok (.invokestatic 248, 3) := by decide +kernel
theorem dL_holds_109 : decode cL_holds 109 = .ok (.iconst (-1), 1) := by decide +kernel
theorem dL_holds_110 : decode cL_holds 110 = .ok (.if_icmp .ne 48, 3) := by decide +kernel
theorem dL_holds_113 : decode cL_holds 113 = .ok (.iload 6, 2) := by decide +kernel
theorem dL_holds_115 : decode cL_holds 115 = .ok (.ifCond .eq 39, 3) := by decide +kernel
theorem dL_holds_118 : decode cL_holds 118 = .ok (.aload_n 0, 1) := by decide +kernel
theorem dL_holds_119 : decode cL_holds 119 = .ok (.bipush 17, 2) := by decide +kernel
theorem dL_holds_121 : decode cL_holds 121 = .ok (.iload 4, 2) := by decide +kernel
theorem dL_holds_123 : decode cL_holds 123 = .ok (.iload 6, 2) := by decide +kernel
theorem dL_holds_125 : decode cL_holds 125 = .ok (.iconst 1, 1) := by decide +kernel
theorem dL_holds_126 : decode cL_holds 126 = .ok (.isub, 1) := by decide +kernel
theorem dL_holds_127 : decode cL_holds 127 = .ok (.iconst 0, 1) := by decide +kernel
theorem dL_holds_128 : decode cL_holds 128 = .ok (.invokestatic 248, 3) := by decide +kernel
theorem dL_holds_131 : decode cL_holds 131 = .ok (.iload 8, 2) := by decide +kernel
theorem dL_holds_133 : decode cL_holds 133 = .ok (.if_icmp .ne 25, 3) := by decide +kernel
theorem dL_holds_136 : decode cL_holds 136 = .ok (.aload_n 0, 1) := by decide +kernel
theorem dL_holds_137 : decode cL_holds 137 = .ok (.bipush 19, 2) := by decide +kernel
theorem dL_holds_139 : decode cL_holds 139 = .ok (.iload 4, 2) := by decide +kernel
theorem dL_holds_141 : decode cL_holds 141 = .ok (.iload 8, 2) := by decide +kernel
theorem dL_holds_143 : decode cL_holds 143 = .ok (.iconst 0, 1) := by decide +kernel
theorem dL_holds_144 : decode cL_holds 144 = .ok (.invokestatic 248, 3) := by decide +kernel
theorem dL_holds_147 : decode cL_holds 147 = .ok (.iload 6, 2) := by decide +kernel
theorem dL_holds_149 : decode cL_holds 149 = .ok (.iconst 1, 1) := by decide +kernel
theorem dL_holds_150 : decode cL_holds 150 = .ok (.isub, 1) := by decide +kernel
theorem dL_holds_151 : decode cL_holds 151 = .ok (.if_icmp .ne 7, 3) := by decide +kernel
theorem dL_holds_154 : decode cL_holds 154 = .ok (.iconst 1, 1) := by decide +kernel
theorem dL_holds_155 : decode cL_holds 155 = .ok (.goto 4, 3) := by decide +kernel
theorem dL_holds_158 : decode cL_holds 158 = .ok (.iconst 0, 1) := by decide +kernel
theorem dL_holds_159 : decode cL_holds 159 = .ok (.istore 9, 2) := by decide +kernel
theorem dL_holds_161 : decode cL_holds 161 = .ok (.iconst (-1), 1) := by decide +kernel
theorem dL_holds_162 : decode cL_holds 162 = .ok (.istore 10, 2) := by decide +kernel
theorem dL_holds_164 : decode cL_holds 164 = .ok (.aload_n 0, 1) := by decide +kernel
theorem dL_holds_165 : decode cL_holds 165 = .ok (.bipush 23, 2) := by decide +kernel
theorem dL_holds_167 : decode cL_holds 167 = .ok (.iload 4, 2) := by decide +kernel
theorem dL_holds_169 : decode cL_holds 169 = .ok (.iconst 0, 1) := by decide +kernel
theorem dL_holds_170 : decode cL_holds 170 = .ok (.iconst 0, 1) := by decide +kernel
theorem dL_holds_171 : decode cL_holds 171 = .ok (.invokestatic 248, 3) := by decide +kernel
theorem dL_holds_174 : decode cL_holds 174 = .ok (.istore 11, 2) := by decide +kernel
theorem dL_holds_176 : decode cL_holds 176 = .ok (.iconst 0, 1) := by decide +kernel
theorem dL_holds_177 : decode cL_holds 177 = .ok (.istore 12, 2) := by decide +kernel
theorem dL_holds_179 : decode cL_holds 179 = .ok (.iload 12, 2) := by decide +kernel
theorem dL_holds_181 : decode cL_holds 181 = .ok (.bipush 8, 2) := by decide +kernel
theorem dL_holds_183 : decode cL_holds 183 = .ok (.if_icmp .ge 248, 3) := by decide +kernel
theorem dL_holds_186 : decode cL_holds 186 = .ok (.iload 9, 2) := by decide +kernel
theorem dL_holds_188 : decode cL_holds 188 = .ok (.ifCond .eq 243, 3) := by decide +kernel
theorem dL_holds_191 : decode cL_holds 191 = .ok (.iload_n 1, 1) := by decide +kernel
theorem dL_holds_192 : decode cL_holds 192 = .ok (.bipush 7, 2) := by decide +kernel
theorem dL_holds_194 : decode cL_holds 194 = .ok (.idiv, 1) := by decide +kernel
theorem dL_holds_195 : decode cL_holds 195 = .ok (.iconst 5, 1) := by decide +kernel
theorem dL_holds_196 : decode cL_holds 196 = .ok (.irem, 1) := by decide +kernel
theorem dL_holds_197 : decode cL_holds 197 = .ok (.iconst 3, 1) := by decide +kernel
theorem dL_holds_198 : decode cL_holds 198 = .ok (.iload 12, 2) := by decide +kernel
theorem dL_holds_200 : decode cL_holds 200 = .ok (.imul, 1) := by decide +kernel
theorem dL_holds_201 : decode cL_holds 201 = .ok (.iadd, 1) := by decide +kernel
theorem dL_holds_202 : decode cL_holds 202 = .ok (.istore 13, 2) := by decide +kernel
theorem dL_holds_204 : decode cL_holds 204 = .ok (.aload_n 0, 1) := by decide +kernel
theorem dL_holds_205 : decode cL_holds 205 = .ok (.bipush 17, 2) := by decide +kernel
theorem dL_holds_207 : decode cL_holds 207 = .ok (.iload 4, 2) := by decide +kernel
theorem dL_holds_209 : decode cL_holds 209 = .ok (.iload 13, 2) := by decide +kernel
theorem dL_holds_211 : decode cL_holds 211 = .ok (.iconst 0, 1) := by decide +kernel
theorem dL_holds_212 : decode cL_holds 212 = .ok (.invokestatic 248, 3) := by decide +kernel
theorem dL_holds_215 : decode cL_holds 215 = .ok (.istore 14, 2) := by decide +kernel
theorem dL_holds_217 : decode cL_holds 217 = .ok (.iload 14, 2) := by decide +kernel
theorem dL_holds_219 : decode cL_holds 219 = .ok (.aload_n 0, 1) := by decide +kernel
theorem dL_holds_220 : decode cL_holds 220 = .ok (.bipush 18, 2) := by decide +kernel
theorem dL_holds_222 : decode cL_holds 222 = .ok (.iload 4, 2) := by decide +kernel
theorem dL_holds_224 : decode cL_holds 224 = .ok (.iload 13, 2) := by decide +kernel
theorem dL_holds_226 : decode cL_holds 226 = .ok (.iconst 0, 1) := by decide +kernel
theorem dL_holds_227 : decode cL_holds 227 = .ok (.invokestatic 248, 3) := by decide +kernel
theorem dL_holds_230 : decode cL_holds 230 = .ok (.if_icmp .ne 33, 3) := by decide +kernel
theorem dL_holds_233 : decode cL_holds 233 = .ok (.iload 14, 2) := by decide +kernel
theorem dL_holds_235 : decode cL_holds 235 = .ok (.iconst (-1), 1) := by decide +kernel
theorem dL_holds_236 : decode cL_holds 236 = .ok (.if_icmp .ne 7, 3) := by decide +kernel
theorem dL_holds_239 : decode cL_holds 239 = .ok (.iconst 1, 1) := by decide +kernel
theorem dL_holds_240 : decode cL_holds 240 = .ok (.goto 4, 3) := by decide +kernel
theorem dL_holds_243 : decode cL_holds 243 = .ok (.iconst 0, 1) := by decide +kernel
theorem dL_holds_244 : decode cL_holds 244 = .ok (.iload 13, 2) := by decide +kernel
theorem dL_holds_246 : decode cL_holds 246 = .ok (.iload 6, 2) := by decide +kernel
theorem dL_holds_248 : decode cL_holds 248 = .ok (.if_icmp .lt 7, 3) := by decide +kernel
theorem dL_holds_251 : decode cL_holds 251 = .ok (.iconst 1, 1) := by decide +kernel
theorem dL_holds_252 : decode cL_holds 252 = .ok (.goto 4, 3) := by decide +kernel
theorem dL_holds_255 : decode cL_holds 255 = .ok (.iconst 0, 1) := by decide +kernel
theorem dL_holds_256 : decode cL_holds 256 = .ok (.if_icmp .ne 7, 3) := by decide +kernel
theorem dL_holds_259 : decode cL_holds 259 = .ok (.iconst 1, 1) := by decide +kernel
theorem dL_holds_260 : decode cL_holds 260 = .ok (.goto 4, 3) := by decide +kernel
theorem dL_holds_263 : decode cL_holds 263 = .ok (.iconst 0, 1) := by decide +kernel
theorem dL_holds_264 : decode cL_holds 264 = .ok (.istore 9, 2) := by decide +kernel
theorem dL_holds_266 : decode cL_holds 266 = .ok (.iload 14, 2) := by decide +kernel
theorem dL_holds_268 : decode cL_holds 268 = .ok (.iconst (-1), 1) := by decide +kernel
theorem dL_holds_269 : decode cL_holds 269 = .ok (.if_icmp .eq 156, 3) := by decide +kernel
theorem dL_holds_272 : decode cL_holds 272 = .ok (.iload 9, 2) := by decide +kernel
theorem dL_holds_274 : decode cL_holds 274 = .ok (.ifCond .eq 151, 3) := by decide +kernel
theorem dL_holds_277 : decode cL_holds 277 = .ok (.aload_n 0, 1) := by decide +kernel
theorem dL_holds_278 : decode cL_holds 278 = .ok (.bipush 17, 2) := by decide +kernel
theorem dL_holds_280 : decode cL_holds 280 = .ok (.iload 4, 2) := by decide +kernel
theorem dL_holds_282 : decode cL_holds 282 = .ok (.iload 13, 2) := by decide +kernel
theorem dL_holds_284 : decode cL_holds 284 = .ok (.iconst 1, 1) := by decide +kernel
theorem dL_holds_285 : decode cL_holds 285 = .ok (.iadd, 1) := by decide +kernel
theorem dL_holds_286 : decode cL_holds 286 = .ok (.iconst 0, 1) := by decide +kernel
theorem dL_holds_287 : decode cL_holds 287 = .ok (.invokestatic 248, 3) := by decide +kernel
theorem dL_holds_290 : decode cL_holds 290 = .ok (.istore 15, 2) := by decide +kernel
theorem dL_holds_292 : decode cL_holds 292 = .ok (.iload 14, 2) := by decide +kernel
theorem dL_holds_294 : decode cL_holds 294 = .ok (.iload 10, 2) := by decide +kernel
theorem dL_holds_296 : decode cL_holds 296 = .ok (.if_icmp .le 122, 3) := by decide +kernel
theorem dL_holds_299 : decode cL_holds 299 = .ok (.iload 14, 2) := by decide +kernel
theorem dL_holds_301 : decode cL_holds 301 = .ok (.sipush 999, 3) := by decide +kernel
theorem dL_holds_304 : decode cL_holds 304 = .ok (.if_icmp .gt 114, 3) := by decide +kernel
theorem dL_holds_307 : decode cL_holds 307 = .ok (.aload_n 0, 1) := by decide +kernel
theorem dL_holds_308 : decode cL_holds 308 = .ok (.iload 4, 2) := by decide +kernel
theorem dL_holds_310 : decode cL_holds 310 = .ok (.iload 14, 2) := by decide +kernel
theorem dL_holds_312 : decode cL_holds 312 = .ok (.invokestatic 252, 3) := by decide +kernel
theorem dL_holds_315 : decode cL_holds 315 = .ok (.iconst 1, 1) := by decide +kernel
theorem dL_holds_316 : decode cL_holds 316 = .ok (.if_icmp .ne 102, 3) := by decide +kernel
theorem dL_holds_319 : decode cL_holds 319 = .ok (.aload_n 0, 1) := by decide +kernel
theorem dL_holds_320 : decode cL_holds 320 = .ok (.bipush 19, 2) := by decide +kernel
theorem dL_holds_322 : decode cL_holds 322 = .ok (.iload 4, 2) := by decide +kernel
theorem dL_holds_324 : decode cL_holds 324 = .ok (.iload 14, 2) := by decide +kernel
theorem dL_holds_326 : decode cL_holds 326 = .ok (.iconst 0, 1) := by decide +kernel
theorem dL_holds_327 : decode cL_holds 327 = .ok (.invokestatic 248, 3) := by decide +kernel
theorem dL_holds_330 : decode cL_holds 330 = .ok (.iload 13, 2) := by decide +kernel
theorem dL_holds_332 : decode cL_holds 332 = .ok (.if_icmp .ne 86, 3) := by decide +kernel
theorem dL_holds_335 : decode cL_holds 335 = .ok (.aload_n 0, 1) := by decide +kernel
theorem dL_holds_336 : decode cL_holds 336 = .ok (.bipush 20, 2) := by decide +kernel
theorem dL_holds_338 : decode cL_holds 338 = .ok (.iload 4, 2) := by decide +kernel
theorem dL_holds_340 : decode cL_holds 340 = .ok (.iload 14, 2) := by decide +kernel
theorem dL_holds_342 : decode cL_holds 342 = .ok (.iconst 0, 1) := by decide +kernel
theorem dL_holds_343 : decode cL_holds 343 = .ok (.invokestatic 248, 3) := by decide +kernel
theorem dL_holds_346 : decode cL_holds 346 = .ok (.iload 13, 2) := by decide +kernel
theorem dL_holds_348 : decode cL_holds 348 = .ok (.iconst 1, 1) := by decide +kernel
theorem dL_holds_349 : decode cL_holds 349 = .ok (.iadd, 1) := by decide +kernel
theorem dL_holds_350 : decode cL_holds 350 = .ok (.if_icmp .ne 68, 3) := by decide +kernel
theorem dL_holds_353 : decode cL_holds 353 = .ok (.iload 15, 2) := by decide +kernel
theorem dL_holds_355 : decode cL_holds 355 = .ok (.iconst (-1), 1) := by decide +kernel
theorem dL_holds_356 : decode cL_holds 356 = .ok (.if_icmp .eq 13, 3) := by decide +kernel
theorem dL_holds_359 : decode cL_holds 359 = .ok (.iload 15, 2) := by decide +kernel
theorem dL_holds_361 : decode cL_holds 361 = .ok (.iload 14, 2) := by decide +kernel
theorem dL_holds_363 : decode cL_holds 363 = .ok (.isub, 1) := by decide +kernel
theorem dL_holds_364 : decode cL_holds 364 = .ok (.iload 11, 2) := by decide +kernel
theorem dL_holds_366 : decode cL_holds 366 = .ok (.if_icmp .gt 52, 3) := by decide +kernel
theorem dL_holds_369 : decode cL_holds 369 = .ok (.iload 15, 2) := by decide +kernel
theorem dL_holds_371 : decode cL_holds 371 = .ok (.iconst (-1), 1) := by decide +kernel
theorem dL_holds_372 : decode cL_holds 372 = .ok (.if_icmp .eq 42, 3) := by decide +kernel
theorem dL_holds_375 : decode cL_holds 375 = .ok (.iload 15, 2) := by decide +kernel
theorem dL_holds_377 : decode cL_holds 377 = .ok (.iload 14, 2) := by decide +kernel
theorem dL_holds_379 : decode cL_holds 379 = .ok (.iconst 1, 1) := by decide +kernel
theorem dL_holds_380 : decode cL_holds 380 = .ok (.iadd, 1) := by decide +kernel
theorem dL_holds_381 : decode cL_holds 381 = .ok (.if_icmp .eq 33, 3) := by decide +kernel
theorem dL_holds_384 : decode cL_holds 384 = .ok (.aload_n 0, 1) := by decide +kernel
theorem dL_holds_385 : decode cL_holds 385 = .ok (.iload 4, 2) := by decide +kernel
theorem dL_holds_387 : decode cL_holds 387 = .ok (.iload 14, 2) := by decide +kernel
theorem dL_holds_389 : decode cL_holds 389 = .ok (.iconst 1, 1) := by decide +kernel
theorem dL_holds_390 : decode cL_holds 390 = .ok (.iadd, 1) := by decide +kernel
theorem dL_holds_391 : decode cL_holds 391 = .ok (.invokestatic 252, 3) := by decide +kernel
theorem dL_holds_394 : decode cL_holds 394 = .ok (.ifCond .ne 24, 3) := by decide +kernel
theorem dL_holds_397 : decode cL_holds 397 = .ok (.aload_n 0, 1) := by decide +kernel
theorem dL_holds_398 : decode cL_holds 398 = .ok (.bipush 19, 2) := by decide +kernel
theorem dL_holds_400 : decode cL_holds 400 = .ok (.iload 4, 2) := by decide +kernel
theorem dL_holds_402 : decode cL_holds 402 = .ok (.iload 14, 2) := by decide +kernel
theorem dL_holds_404 : decode cL_holds 404 = .ok (.iconst 1, 1) := by decide +kernel
theorem dL_holds_405 : decode cL_holds 405 = .ok (.iadd, 1) := by decide +kernel
theorem dL_holds_406 : decode cL_holds 406 = .ok (.iconst 0, 1) := by decide +kernel
theorem dL_holds_407 : decode cL_holds 407 = .ok (.invokestatic 248, 3) := by decide +kernel
theorem dL_holds_410 : decode cL_holds 410 = .ok (.iconst (-1), 1) := by decide +kernel
theorem dL_holds_411 : decode cL_holds 411 = .ok (.if_icmp .ne 7, 3) := by decide +kernel
theorem dL_holds_414 : decode cL_holds 414 = .ok (.iconst 1, 1) := by decide +kernel
theorem dL_holds_415 : decode cL_holds 415 = .ok (.goto 4, 3) := by decide +kernel
theorem dL_holds_418 : decode cL_holds 418 = .ok (.iconst 0, 1) := by decide +kernel
theorem dL_holds_419 : decode cL_holds 419 = .ok (.istore 9, 2) := by decide +kernel
theorem dL_holds_421 : decode cL_holds 421 = .ok (.iload 14, 2) := by decide +kernel
theorem dL_holds_423 : decode cL_holds 423 = .ok (.istore 10, 2) := by decide +kernel
theorem dL_holds_425 : decode cL_holds 425 = .ok (.iinc 12 1, 3) := by decide +kernel
theorem dL_holds_428 : decode cL_holds 428 = .ok (.goto (-249), 3) := by decide +kernel
theorem dL_holds_431 : decode cL_holds 431 = .ok (.aload_n 0, 1) := by decide +kernel
theorem dL_holds_432 : decode cL_holds 432 = .ok (.bipush 30, 2) := by decide +kernel
theorem dL_holds_434 : decode cL_holds 434 = .ok (.iload 4, 2) := by decide +kernel
theorem dL_holds_436 : decode cL_holds 436 = .ok (.iload 5, 2) := by decide +kernel
theorem dL_holds_438 : decode cL_holds 438 = .ok (.iconst 0, 1) := by decide +kernel
theorem dL_holds_439 : decode cL_holds 439 = .ok (.invokestatic 248, 3) := by decide +kernel
theorem dL_holds_442 : decode cL_holds 442 = .ok (.istore 12, 2) := by decide +kernel
theorem dL_holds_444 : decode cL_holds 444 = .ok (.aload_n 0, 1) := by decide +kernel
theorem dL_holds_445 : decode cL_holds 445 = .ok (.bipush 22, 2) := by decide +kernel
theorem dL_holds_447 : decode cL_holds 447 = .ok (.iload 4, 2) := by decide +kernel
