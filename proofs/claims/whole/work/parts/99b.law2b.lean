/-! The law: decode rows. Written by wip/whole/law.py. -/
theorem d_law_368 : decode code 368 = .ok (.aload_n 0, 1) := by decide +kernel
theorem d_law_369 : decode code 369 = .ok (.iload 4, 2) := by decide +kernel
theorem d_law_371 : decode code 371 = .ok (.iconst 1, 1) := by decide +kernel
theorem d_law_372 : decode code 372 = .ok (.iadd, 1) := by decide +kernel
theorem d_law_373 : decode code 373 = .ok (.iaload, 1) := by decide +kernel
theorem d_law_374 : decode code 374 = .ok (.invokevirtual 80, 3) := by decide +kernel
theorem d_law_377 : decode code 377 = .ok (.istore 6, 2) := by decide +kernel
theorem d_law_379 : decode code 379 = .ok (.aload_n 2, 1) := by decide +kernel
theorem d_law_380 : decode code 380 = .ok (.invokevirtual 65, 3) := by decide +kernel
theorem d_law_383 : decode code 383 = .ok (.iload 5, 2) := by decide +kernel
theorem d_law_385 : decode code 385 = .ok (.if_icmp .eq 5, 3) := by decide +kernel
theorem d_law_388 : decode code 388 = .ok (.iconst 0, 1) := by decide +kernel
theorem d_law_389 : decode code 389 = .ok (.ireturn, 1) := by decide +kernel
theorem d_law_390 : decode code 390 = .ok (.iload 5, 2) := by decide +kernel
theorem d_law_392 : decode code 392 = .ok (.ifCond .ne 15, 3) := by decide +kernel
theorem d_law_395 : decode code 395 = .ok (.aload_n 3, 1) := by decide +kernel
theorem d_law_396 : decode code 396 = .ok (.iconst 0, 1) := by decide +kernel
theorem d_law_397 : decode code 397 = .ok (.laload, 1) := by decide +kernel
theorem d_law_398 : decode code 398 = .ok (.iload 6, 2) := by decide +kernel
theorem d_law_400 : decode code 400 = .ok (.i2l, 1) := by decide +kernel
theorem d_law_401 : decode code 401 = .ok (.lcmp, 1) := by decide +kernel
theorem d_law_402 : decode code 402 = .ok (.ifCond .eq 5, 3) := by decide +kernel
theorem d_law_405 : decode code 405 = .ok (.iconst 0, 1) := by decide +kernel
theorem d_law_406 : decode code 406 = .ok (.ireturn, 1) := by decide +kernel
theorem d_law_407 : decode code 407 = .ok (.goto 763, 3) := by decide +kernel
theorem d_law_410 : decode code 410 = .ok (.aload_n 1, 1) := by decide +kernel
theorem d_law_411 : decode code 411 = .ok (.aload_n 0, 1) := by decide +kernel
theorem d_law_412 : decode code 412 = .ok (.iload 4, 2) := by decide +kernel
theorem d_law_414 : decode code 414 = .ok (.iconst 1, 1) := by decide +kernel
theorem d_law_415 : decode code 415 = .ok (.iadd, 1) := by decide +kernel
theorem d_law_416 : decode code 416 = .ok (.iaload, 1) := by decide +kernel
theorem d_law_417 : decode code 417 = .ok (.aload_n 0, 1) := by decide +kernel
theorem d_law_418 : decode code 418 = .ok (.iload 4, 2) := by decide +kernel
theorem d_law_420 : decode code 420 = .ok (.iconst 2, 1) := by decide +kernel
theorem d_law_421 : decode code 421 = .ok (.iadd, 1) := by decide +kernel
theorem d_law_422 : decode code 422 = .ok (.iaload, 1) := by decide +kernel
theorem d_law_423 : decode code 423 = .ok (.aload_n 3, 1) := by decide +kernel
theorem d_law_424 : decode code 424 = .ok (.invokestatic 81, 3) := by decide +kernel
theorem d_law_427 : decode code 427 = .ok (.istore 5, 2) := by decide +kernel
theorem d_law_429 : decode code 429 = .ok (.aload_n 2, 1) := by decide +kernel
theorem d_law_430 : decode code 430 = .ok (.aload_n 0, 1) := by decide +kernel
theorem d_law_431 : decode code 431 = .ok (.iload 4, 2) := by decide +kernel
theorem d_law_433 : decode code 433 = .ok (.iconst 1, 1) := by decide +kernel
theorem d_law_434 : decode code 434 = .ok (.iadd, 1) := by decide +kernel
theorem d_law_435 : decode code 435 = .ok (.iaload, 1) := by decide +kernel
theorem d_law_436 : decode code 436 = .ok (.aload_n 0, 1) := by decide +kernel
theorem d_law_437 : decode code 437 = .ok (.iload 4, 2) := by decide +kernel
theorem d_law_439 : decode code 439 = .ok (.iconst 2, 1) := by decide +kernel
theorem d_law_440 : decode code 440 = .ok (.iadd, 1) := by decide +kernel
theorem d_law_441 : decode code 441 = .ok (.iaload, 1) := by decide +kernel
theorem d_law_442 : decode code 442 = .ok (.invokevirtual 83, 3) := by decide +kernel
theorem d_law_445 : decode code 445 = .ok (.istore 6, 2) := by decide +kernel
theorem d_law_447 : decode code 447 = .ok (.aload_n 2, 1) := by decide +kernel
theorem d_law_448 : decode code 448 = .ok (.invokevirtual 65, 3) := by decide +kernel
theorem d_law_451 : decode code 451 = .ok (.iload 5, 2) := by decide +kernel
theorem d_law_453 : decode code 453 = .ok (.if_icmp .eq 5, 3) := by decide +kernel
theorem d_law_456 : decode code 456 = .ok (.iconst 0, 1) := by decide +kernel
theorem d_law_457 : decode code 457 = .ok (.ireturn, 1) := by decide +kernel
theorem d_law_458 : decode code 458 = .ok (.iload 5, 2) := by decide +kernel
theorem d_law_460 : decode code 460 = .ok (.ifCond .ne 22, 3) := by decide +kernel
theorem d_law_463 : decode code 463 = .ok (.aload_n 3, 1) := by decide +kernel
theorem d_law_464 : decode code 464 = .ok (.iconst 0, 1) := by decide +kernel
theorem d_law_465 : decode code 465 = .ok (.laload, 1) := by decide +kernel
theorem d_law_466 : decode code 466 = .ok (.iload 6, 2) := by decide +kernel
theorem d_law_468 : decode code 468 = .ok (.ifCond .eq 7, 3) := by decide +kernel
theorem d_law_471 : decode code 471 = .ok (.lconst 1, 1) := by decide +kernel
theorem d_law_472 : decode code 472 = .ok (.goto 4, 3) := by decide +kernel
theorem d_law_475 : decode code 475 = .ok (.lconst 0, 1) := by decide +kernel
theorem d_law_476 : decode code 476 = .ok (.lcmp, 1) := by decide +kernel
theorem d_law_477 : decode code 477 = .ok (.ifCond .eq 5, 3) := by decide +kernel
theorem d_law_480 : decode code 480 = .ok (.iconst 0, 1) := by decide +kernel
theorem d_law_481 : decode code 481 = .ok (.ireturn, 1) := by decide +kernel
theorem d_law_482 : decode code 482 = .ok (.goto 688, 3) := by decide +kernel
theorem d_law_485 : decode code 485 = .ok (.aload_n 1, 1) := by decide +kernel
theorem d_law_486 : decode code 486 = .ok (.aload_n 0, 1) := by decide +kernel
theorem d_law_487 : decode code 487 = .ok (.iload 4, 2) := by decide +kernel
theorem d_law_489 : decode code 489 = .ok (.iconst 1, 1) := by decide +kernel
theorem d_law_490 : decode code 490 = .ok (.iadd, 1) := by decide +kernel
theorem d_law_491 : decode code 491 = .ok (.iaload, 1) := by decide +kernel
theorem d_law_492 : decode code 492 = .ok (.aload_n 0, 1) := by decide +kernel
theorem d_law_493 : decode code 493 = .ok (.iload 4, 2) := by decide +kernel
theorem d_law_495 : decode code 495 = .ok (.iconst 2, 1) := by decide +kernel
theorem d_law_496 : decode code 496 = .ok (.iadd, 1) := by decide +kernel
theorem d_law_497 : decode code 497 = .ok (.iaload, 1) := by decide +kernel
theorem d_law_498 : decode code 498 = .ok (.aload_n 0, 1) := by decide +kernel
theorem d_law_499 : decode code 499 = .ok (.iload 4, 2) := by decide +kernel
theorem d_law_501 : decode code 501 = .ok (.iconst 3, 1) := by decide +kernel
theorem d_law_502 : decode code 502 = .ok (.iadd, 1) := by decide +kernel
theorem d_law_503 : decode code 503 = .ok (.iaload, 1) := by decide +kernel
theorem d_law_504 : decode code 504 = .ok (.i2l, 1) := by decide +kernel
theorem d_law_505 : decode code 505 = .ok (.bipush 32, 2) := by decide +kernel
theorem d_law_507 : decode code 507 = .ok (.lshl, 1) := by decide +kernel
theorem d_law_508 : decode code 508 = .ok (.aload_n 0, 1) := by decide +kernel
theorem d_law_509 : decode code 509 = .ok (.iload 4, 2) := by decide +kernel
theorem d_law_511 : decode code 511 = .ok (.iconst 4, 1) := by decide +kernel
theorem d_law_512 : decode code 512 = .ok (.iadd, 1) := by decide +kernel
theorem d_law_513 : decode code 513 = .ok (.iaload, 1) := by decide +kernel
theorem d_law_514 : decode code 514 = .ok (.i2l, 1) := by decide +kernel
theorem d_law_515 : decode code 515 = .ok (.ldc2_w 84, 3) := by decide +kernel
theorem d_law_518 : decode code 518 = .ok (.land, 1) := by decide +kernel
theorem d_law_519 : decode code 519 = .ok (.lor, 1) := by decide +kernel
theorem d_law_520 : decode code 520 = .ok (.aload_n 3, 1) := by decide +kernel
theorem d_law_521 : decode code 521 = .ok (.invokestatic 86, 3) := by decide +kernel
theorem d_law_524 : decode code 524 = .ok (.istore 5, 2) := by decide +kernel
theorem d_law_526 : decode code 526 = .ok (.aload_n 2, 1) := by decide +kernel
theorem d_law_527 : decode code 527 = .ok (.aload_n 0, 1) := by decide +kernel
theorem d_law_528 : decode code 528 = .ok (.iload 4, 2) := by decide +kernel
theorem d_law_530 : decode code 530 = .ok (.iconst 1, 1) := by decide +kernel
theorem d_law_531 : decode code 531 = .ok (.iadd, 1) := by decide +kernel
theorem d_law_532 : decode code 532 = .ok (.iaload, 1) := by decide +kernel
theorem d_law_533 : decode code 533 = .ok (.aload_n 0, 1) := by decide +kernel
theorem d_law_534 : decode code 534 = .ok (.iload 4, 2) := by decide +kernel
theorem d_law_536 : decode code 536 = .ok (.iconst 2, 1) := by decide +kernel
theorem d_law_537 : decode code 537 = .ok (.iadd, 1) := by decide +kernel
theorem d_law_538 : decode code 538 = .ok (.iaload, 1) := by decide +kernel
theorem d_law_539 : decode code 539 = .ok (.aload_n 0, 1) := by decide +kernel
theorem d_law_540 : decode code 540 = .ok (.iload 4, 2) := by decide +kernel
theorem d_law_542 : decode code 542 = .ok (.iconst 3, 1) := by decide +kernel
theorem d_law_543 : decode code 543 = .ok (.iadd, 1) := by decide +kernel
theorem d_law_544 : decode code 544 = .ok (.iaload, 1) := by decide +kernel
theorem d_law_545 : decode code 545 = .ok (.i2l, 1) := by decide +kernel
theorem d_law_546 : decode code 546 = .ok (.bipush 32, 2) := by decide +kernel
theorem d_law_548 : decode code 548 = .ok (.lshl, 1) := by decide +kernel
theorem d_law_549 : decode code 549 = .ok (.aload_n 0, 1) := by decide +kernel
theorem d_law_550 : decode code 550 = .ok (.iload 4, 2) := by decide +kernel
theorem d_law_552 : decode code 552 = .ok (.iconst 4, 1) := by decide +kernel
theorem d_law_553 : decode code 553 = .ok (.iadd, 1) := by decide +kernel
theorem d_law_554 : decode code 554 = .ok (.iaload, 1) := by decide +kernel
theorem d_law_555 : decode code 555 = .ok (.i2l, 1) := by decide +kernel
theorem d_law_556 : decode code 556 = .ok (.ldc2_w 84, 3) := by decide +kernel
theorem d_law_559 : decode code 559 = .ok (.land, 1) := by decide +kernel
theorem d_law_560 : decode code 560 = .ok (.lor, 1) := by decide +kernel
theorem d_law_561 : decode code 561 = .ok (.invokevirtual 89, 3) := by decide +kernel
theorem d_law_564 : decode code 564 = .ok (.istore 6, 2) := by decide +kernel
theorem d_law_566 : decode code 566 = .ok (.aload_n 2, 1) := by decide +kernel
theorem d_law_567 : decode code 567 = .ok (.invokevirtual 65, 3) := by decide +kernel
theorem d_law_570 : decode code 570 = .ok (.iload 5, 2) := by decide +kernel
theorem d_law_572 : decode code 572 = .ok (.if_icmp .eq 5, 3) := by decide +kernel
theorem d_law_575 : decode code 575 = .ok (.iconst 0, 1) := by decide +kernel
theorem d_law_576 : decode code 576 = .ok (.ireturn, 1) := by decide +kernel
theorem d_law_577 : decode code 577 = .ok (.iload 5, 2) := by decide +kernel
theorem d_law_579 : decode code 579 = .ok (.ifCond .ne 22, 3) := by decide +kernel
theorem d_law_582 : decode code 582 = .ok (.aload_n 3, 1) := by decide +kernel
theorem d_law_583 : decode code 583 = .ok (.iconst 0, 1) := by decide +kernel
theorem d_law_584 : decode code 584 = .ok (.laload, 1) := by decide +kernel
theorem d_law_585 : decode code 585 = .ok (.iload 6, 2) := by decide +kernel
theorem d_law_587 : decode code 587 = .ok (.ifCond .eq 7, 3) := by decide +kernel
theorem d_law_590 : decode code 590 = .ok (.lconst 1, 1) := by decide +kernel
theorem d_law_591 : decode code 591 = .ok (.goto 4, 3) := by decide +kernel
theorem d_law_594 : decode code 594 = .ok (.lconst 0, 1) := by decide +kernel
theorem d_law_595 : decode code 595 = .ok (.lcmp, 1) := by decide +kernel
theorem d_law_596 : decode code 596 = .ok (.ifCond .eq 5, 3) := by decide +kernel
theorem d_law_599 : decode code 599 = .ok (.iconst 0, 1) := by decide +kernel
theorem d_law_600 : decode code 600 = .ok (.ireturn, 1) := by decide +kernel
theorem d_law_601 : decode code 601 = .ok (.goto 569, 3) := by decide +kernel
theorem d_law_604 : decode code 604 = .ok (.aload_n 1, 1) := by decide +kernel
theorem d_law_605 : decode code 605 = .ok (.aload_n 0, 1) := by decide +kernel
theorem d_law_606 : decode code 606 = .ok (.iload 4, 2) := by decide +kernel
theorem d_law_608 : decode code 608 = .ok (.iconst 1, 1) := by decide +kernel
theorem d_law_609 : decode code 609 = .ok (.iadd, 1) := by decide +kernel
theorem d_law_610 : decode code 610 = .ok (.iaload, 1) := by decide +kernel
theorem d_law_611 : decode code 611 = .ok (.aload_n 0, 1) := by decide +kernel
theorem d_law_612 : decode code 612 = .ok (.iload 4, 2) := by decide +kernel
theorem d_law_614 : decode code 614 = .ok (.iconst 2, 1) := by decide +kernel
theorem d_law_615 : decode code 615 = .ok (.iadd, 1) := by decide +kernel
theorem d_law_616 : decode code 616 = .ok (.iaload, 1) := by decide +kernel
theorem d_law_617 : decode code 617 = .ok (.aload_n 0, 1) := by decide +kernel
theorem d_law_618 : decode code 618 = .ok (.iload 4, 2) := by decide +kernel
theorem d_law_620 : decode code 620 = .ok (.iconst 3, 1) := by decide +kernel
theorem d_law_621 : decode code 621 = .ok (.iadd, 1) := by decide +kernel
theorem d_law_622 : decode code 622 = .ok (.iaload, 1) := by decide +kernel
theorem d_law_623 : decode code 623 = .ok (.aload_n 0, 1) := by decide +kernel
theorem d_law_624 : decode code 624 = .ok (.iload 4, 2) := by decide +kernel
theorem d_law_626 : decode code 626 = .ok (.iconst 4, 1) := by decide +kernel
theorem d_law_627 : decode code 627 = .ok (.iadd, 1) := by decide +kernel
theorem d_law_628 : decode code 628 = .ok (.iaload, 1) := by decide +kernel
theorem d_law_629 : decode code 629 = .ok (.aload_n 3, 1) := by decide +kernel
theorem d_law_630 : decode code 630 = .ok (.invokestatic 90, 3) := by decide +kernel
theorem d_law_633 : decode code 633 = .ok (.istore 5, 2) := by decide +kernel
theorem d_law_635 : decode code 635 = .ok (.aload_n 2, 1) := by decide +kernel
theorem d_law_636 : decode code 636 = .ok (.aload_n 0, 1) := by decide +kernel
theorem d_law_637 : decode code 637 = .ok (.iload 4, 2) := by decide +kernel
