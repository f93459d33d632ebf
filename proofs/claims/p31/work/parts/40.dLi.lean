theorem dL_prints_338 : decode cL_prints 338 = .ok (.istore 14, 2) := by decide +kernel
theorem dL_prints_340 : decode cL_prints 340 = .ok (.iconst 0, 1) := by decide +kernel
theorem dL_prints_341 : decode cL_prints 341 = .ok (.istore 15, 2) := by decide +kernel
theorem dL_prints_343 : decode cL_prints 343 = .ok (.iload 15, 2) := by decide +kernel
theorem dL_prints_345 : decode cL_prints 345 = .ok (.bipush 8, 2) := by decide +kernel
theorem dL_prints_347 : decode cL_prints 347 = .ok (.if_icmp .ge 74, 3) := by decide +kernel
theorem dL_prints_350 : decode cL_prints 350 = .ok (.iload 8, 2) := by decide +kernel
theorem dL_prints_352 : decode cL_prints 352 = .ok (.ifCond .eq 69, 3) := by decide +kernel
theorem dL_prints_355 : decode cL_prints 355 = .ok (.iload 14, 2) := by decide +kernel
theorem dL_prints_357 : decode cL_prints 357 = .ok (.ifCond .eq 55, 3) := by decide +kernel
theorem dL_prints_360 : decode cL_prints 360 = .ok (.aload_n 0, 1) := by decide +kernel
theorem dL_prints_361 : decode cL_prints 361 = .ok (.iload 7, 2) := by decide +kernel
theorem dL_prints_363 : decode cL_prints 363 = .ok (.iload 15, 2) := by decide +kernel
theorem dL_prints_365 : decode cL_prints 365 = .ok (.iconst 4, 1) := by decide +kernel
theorem dL_prints_366 : decode cL_prints 366 = .ok (.idiv, 1) := by decide +kernel
theorem dL_prints_367 : decode cL_prints 367 = .ok (.iload 15, 2) := by decide +kernel
theorem dL_prints_369 : decode cL_prints 369 = .ok (.iconst 4, 1) := by decide +kernel
theorem dL_prints_370 : decode cL_prints 370 = .ok (.irem, 1) := by decide +kernel
theorem dL_prints_371 : decode cL_prints 371 = .ok (.invokestatic 189, 3) := by decide +kernel
theorem dL_prints_374 : decode cL_prints 374 = .ok (.iload 10, 2) := by decide +kernel
theorem dL_prints_376 : decode cL_prints 376 = .ok (.iload 15, 2) := by decide +kernel
theorem dL_prints_378 : decode cL_prints 378 = .ok (.ishr, 1) := by decide +kernel
theorem dL_prints_379 : decode cL_prints 379 = .ok (.iconst 1, 1) := by decide +kernel
theorem dL_prints_380 : decode cL_prints 380 = .ok (.iand, 1) := by decide +kernel
theorem dL_prints_381 : decode cL_prints 381 = .ok (.ifCond .ne 7, 3) := by decide +kernel
theorem dL_prints_384 : decode cL_prints 384 = .ok (.iconst (-1), 1) := by decide +kernel
theorem dL_prints_385 : decode cL_prints 385 = .ok (.goto 20, 3) := by decide +kernel
theorem dL_prints_388 : decode cL_prints 388 = .ok (.aload 13, 2) := by decide +kernel
theorem dL_prints_390 : decode cL_prints 390 = .ok (.iload 15, 2) := by decide +kernel
theorem dL_prints_392 : decode cL_prints 392 = .ok (.iaload, 1) := by decide +kernel
theorem dL_prints_393 : decode cL_prints 393 = .ok (.ifCond .ge 7, 3) := by decide +kernel
theorem dL_prints_396 : decode cL_prints 396 = .ok (.iconst 0, 1) := by decide +kernel
theorem dL_prints_397 : decode cL_prints 397 = .ok (.goto 8, 3) := by decide +kernel
theorem dL_prints_400 : decode cL_prints 400 = .ok (.aload 13, 2) := by decide +kernel
theorem dL_prints_402 : decode cL_prints 402 = .ok (.iload 15, 2) := by decide +kernel
theorem dL_prints_404 : decode cL_prints 404 = .ok (.iaload, 1) := by decide +kernel
theorem dL_prints_405 : decode cL_prints 405 = .ok (.if_icmp .ne 7, 3) := by decide +kernel
theorem dL_prints_408 : decode cL_prints 408 = .ok (.iconst 1, 1) := by decide +kernel
theorem dL_prints_409 : decode cL_prints 409 = .ok (.goto 4, 3) := by decide +kernel
theorem dL_prints_412 : decode cL_prints 412 = .ok (.iconst 0, 1) := by decide +kernel
theorem dL_prints_413 : decode cL_prints 413 = .ok (.istore 14, 2) := by decide +kernel
theorem dL_prints_415 : decode cL_prints 415 = .ok (.iinc 15 1, 3) := by decide +kernel
theorem dL_prints_418 : decode cL_prints 418 = .ok (.goto (-75), 3) := by decide +kernel
theorem dL_prints_421 : decode cL_prints 421 = .ok (.iload 14, 2) := by decide +kernel
theorem dL_prints_423 : decode cL_prints 423 = .ok (.ifCond .eq 33, 3) := by decide +kernel
theorem dL_prints_426 : decode cL_prints 426 = .ok (.aload_n 0, 1) := by decide +kernel
theorem dL_prints_427 : decode cL_prints 427 = .ok (.iload 7, 2) := by decide +kernel
theorem dL_prints_429 : decode cL_prints 429 = .ok (.iconst 2, 1) := by decide +kernel
theorem dL_prints_430 : decode cL_prints 430 = .ok (.iconst 0, 1) := by decide +kernel
theorem dL_prints_431 : decode cL_prints 431 = .ok (.invokestatic 189, 3) := by decide +kernel
theorem dL_prints_434 : decode cL_prints 434 = .ok (.ldc 21, 2) := by decide +kernel
theorem dL_prints_436 : decode cL_prints 436 = .ok (.if_icmp .ne 20, 3) := by decide +kernel
theorem dL_prints_439 : decode cL_prints 439 = .ok (.aload_n 0, 1) := by decide +kernel
theorem dL_prints_440 : decode cL_prints 440 = .ok (.iload 7, 2) := by decide +kernel
theorem dL_prints_442 : decode cL_prints 442 = .ok (.iconst 0, 1) := by decide +kernel
theorem dL_prints_443 : decode cL_prints 443 = .ok (.iconst 4, 1) := by decide +kernel
theorem dL_prints_444 : decode cL_prints 444 = .ok (.invokestatic 189, 3) := by decide +kernel
theorem dL_prints_447 : decode cL_prints 447 = .ok (.ldc 21, 2) := by decide +kernel
theorem dL_prints_449 : decode cL_prints 449 = .ok (.if_icmp .ne 7, 3) := by decide +kernel
theorem dL_prints_452 : decode cL_prints 452 = .ok (.iconst 1, 1) := by decide +kernel
theorem dL_prints_453 : decode cL_prints 453 = .ok (.goto 4, 3) := by decide +kernel
theorem dL_prints_456 : decode cL_prints 456 = .ok (.iconst 0, 1) := by decide +kernel
theorem dL_prints_457 : decode cL_prints 457 = .ok (.ireturn, 1) := by decide +kernel
theorem dL_prints_458 : decode cL_prints 458 = .ok (.iconst 0, 1) := by decide +kernel
theorem dL_prints_459 : decode cL_prints 459 = .ok (.istore 14, 2) := by decide +kernel
theorem dL_prints_461 : decode cL_prints 461 = .ok (.iload 14, 2) := by decide +kernel
theorem dL_prints_463 : decode cL_prints 463 = .ok (.bipush 8, 2) := by decide +kernel
theorem dL_prints_465 : decode cL_prints 465 = .ok (.if_icmp .ge 53, 3) := by decide +kernel
theorem dL_prints_468 : decode cL_prints 468 = .ok (.iload 12, 2) := by decide +kernel
theorem dL_prints_470 : decode cL_prints 470 = .ok (.ifCond .eq 39, 3) := by decide +kernel
theorem dL_prints_473 : decode cL_prints 473 = .ok (.iload 10, 2) := by decide +kernel
theorem dL_prints_475 : decode cL_prints 475 = .ok (.iload 14, 2) := by decide +kernel
theorem dL_prints_477 : decode cL_prints 477 = .ok (.ishr, 1) := by decide +kernel
theorem dL_prints_478 : decode cL_prints 478 = .ok (.iconst 1, 1) := by decide +kernel
theorem dL_prints_479 : decode cL_prints 479 = .ok (.iand, 1) := by decide +kernel
theorem dL_prints_480 : decode cL_prints 480 = .ok (.ifCond .eq 25, 3) := by decide +kernel
theorem dL_prints_483 : decode cL_prints 483 = .ok (.aload 13, 2) := by decide +kernel
theorem dL_prints_485 : decode cL_prints 485 = .ok (.iload 14, 2) := by decide +kernel
theorem dL_prints_487 : decode cL_prints 487 = .ok (.iaload, 1) := by decide +kernel
theorem dL_prints_488 : decode cL_prints 488 = .ok (.ifCond .lt 21, 3) := by decide +kernel
theorem dL_prints_491 : decode cL_prints 491 = .ok (.aload 13, 2) := by decide +kernel
theorem dL_prints_493 : decode cL_prints 493 = .ok (.iload 14, 2) := by decide +kernel
theorem dL_prints_495 : decode cL_prints 495 = .ok (.iaload, 1) := by decide +kernel
theorem dL_prints_496 : decode cL_prints 496 = .ok (.iload 9, 2) := by decide +kernel
theorem dL_prints_498 : decode cL_prints 498 = .ok (.iadd, 1) := by decide +kernel
theorem dL_prints_499 : decode cL_prints 499 = .ok (.sipush 1000, 3) := by decide +kernel
theorem dL_prints_502 : decode cL_prints 502 = .ok (.if_icmp .gt 7, 3) := by decide +kernel
theorem dL_prints_505 : decode cL_prints 505 = .ok (.iconst 1, 1) := by decide +kernel
theorem dL_prints_506 : decode cL_prints 506 = .ok (.goto 4, 3) := by decide +kernel
theorem dL_prints_509 : decode cL_prints 509 = .ok (.iconst 0, 1) := by decide +kernel
theorem dL_prints_510 : decode cL_prints 510 = .ok (.istore 12, 2) := by decide +kernel
theorem dL_prints_512 : decode cL_prints 512 = .ok (.iinc 14 1, 3) := by decide +kernel
theorem dL_prints_515 : decode cL_prints 515 = .ok (.goto (-54), 3) := by decide +kernel
theorem dL_prints_518 : decode cL_prints 518 = .ok (.aload 4, 2) := by decide +kernel
theorem dL_prints_520 : decode cL_prints 520 = .ok (.iconst 5, 1) := by decide +kernel
theorem dL_prints_521 : decode cL_prints 521 = .ok (.dup2, 1) := by decide +kernel
theorem dL_prints_522 : decode cL_prints 522 = .ok (.iaload, 1) := by decide +kernel
theorem dL_prints_523 : decode cL_prints 523 = .ok (.iload 12, 2) := by decide +kernel
theorem dL_prints_525 : decode cL_prints 525 = .ok (.ifCond .eq 8, 3) := by decide +kernel
theorem dL_prints_528 : decode cL_prints 528 = .ok (.iload 9, 2) := by decide +kernel
theorem dL_prints_530 : decode cL_prints 530 = .ok (.goto 4, 3) := by decide +kernel
theorem dL_prints_533 : decode cL_prints 533 = .ok (.iconst 0, 1) := by decide +kernel
theorem dL_prints_534 : decode cL_prints 534 = .ok (.iadd, 1) := by decide +kernel
theorem dL_prints_535 : decode cL_prints 535 = .ok (.iastore, 1) := by decide +kernel
theorem dL_prints_536 : decode cL_prints 536 = .ok (.aload_n 0, 1) := by decide +kernel
theorem dL_prints_537 : decode cL_prints 537 = .ok (.iload 7, 2) := by decide +kernel
theorem dL_prints_539 : decode cL_prints 539 = .ok (.iload 9, 2) := by decide +kernel
theorem dL_prints_541 : decode cL_prints 541 = .ok (.invokestatic 187, 3) := by decide +kernel
theorem dL_prints_544 : decode cL_prints 544 = .ok (.iload 12, 2) := by decide +kernel
theorem dL_prints_546 : decode cL_prints 546 = .ok (.ifCond .eq 10, 3) := by decide +kernel
theorem dL_prints_549 : decode cL_prints 549 = .ok (.aload 4, 2) := by decide +kernel
theorem dL_prints_551 : decode cL_prints 551 = .ok (.iconst 5, 1) := by decide +kernel
theorem dL_prints_552 : decode cL_prints 552 = .ok (.iaload, 1) := by decide +kernel
theorem dL_prints_553 : decode cL_prints 553 = .ok (.goto 5, 3) := by decide +kernel
theorem dL_prints_556 : decode cL_prints 556 = .ok (.ldc 24, 2) := by decide +kernel
theorem dL_prints_558 : decode cL_prints 558 = .ok (.if_icmp .ne 48, 3) := by decide +kernel
theorem dL_prints_561 : decode cL_prints 561 = .ok (.aload_n 0, 1) := by decide +kernel
theorem dL_prints_562 : decode cL_prints 562 = .ok (.iload 7, 2) := by decide +kernel
theorem dL_prints_564 : decode cL_prints 564 = .ok (.sipush 501, 3) := by decide +kernel
theorem dL_prints_567 : decode cL_prints 567 = .ok (.invokestatic 187, 3) := by decide +kernel
theorem dL_prints_570 : decode cL_prints 570 = .ok (.ldc 21, 2) := by decide +kernel
theorem dL_prints_572 : decode cL_prints 572 = .ok (.if_icmp .ne 34, 3) := by decide +kernel
theorem dL_prints_575 : decode cL_prints 575 = .ok (.aload_n 0, 1) := by decide +kernel
theorem dL_prints_576 : decode cL_prints 576 = .ok (.iload 7, 2) := by decide +kernel
theorem dL_prints_578 : decode cL_prints 578 = .ok (.iconst 0, 1) := by decide +kernel
theorem dL_prints_579 : decode cL_prints 579 = .ok (.invokestatic 187, 3) := by decide +kernel
theorem dL_prints_582 : decode cL_prints 582 = .ok (.ldc 21, 2) := by decide +kernel
theorem dL_prints_584 : decode cL_prints 584 = .ok (.if_icmp .ne 22, 3) := by decide +kernel
theorem dL_prints_587 : decode cL_prints 587 = .ok (.aload_n 0, 1) := by decide +kernel
theorem dL_prints_588 : decode cL_prints 588 = .ok (.aload 4, 2) := by decide +kernel
theorem dL_prints_590 : decode cL_prints 590 = .ok (.invokestatic 100, 3) := by decide +kernel
theorem dL_prints_593 : decode cL_prints 593 = .ok (.iconst 0, 1) := by decide +kernel
theorem dL_prints_594 : decode cL_prints 594 = .ok (.invokestatic 187, 3) := by decide +kernel
theorem dL_prints_597 : decode cL_prints 597 = .ok (.ldc 18, 2) := by decide +kernel
theorem dL_prints_599 : decode cL_prints 599 = .ok (.if_icmp .ne 7, 3) := by decide +kernel
theorem dL_prints_602 : decode cL_prints 602 = .ok (.iconst 1, 1) := by decide +kernel
theorem dL_prints_603 : decode cL_prints 603 = .ok (.goto 4, 3) := by decide +kernel
theorem dL_prints_606 : decode cL_prints 606 = .ok (.iconst 0, 1) := by decide +kernel
theorem dL_prints_607 : decode cL_prints 607 = .ok (.istore 14, 2) := by decide +kernel
theorem dL_prints_609 : decode cL_prints 609 = .ok (.iconst 0, 1) := by decide +kernel
theorem dL_prints_610 : decode cL_prints 610 = .ok (.istore 15, 2) := by decide +kernel
theorem dL_prints_612 : decode cL_prints 612 = .ok (.iload 15, 2) := by decide +kernel
theorem dL_prints_614 : decode cL_prints 614 = .ok (.bipush 8, 2) := by decide +kernel
theorem dL_prints_616 : decode cL_prints 616 = .ok (.if_icmp .ge 86, 3) := by decide +kernel
theorem dL_prints_619 : decode cL_prints 619 = .ok (.iload 12, 2) := by decide +kernel
theorem dL_prints_621 : decode cL_prints 621 = .ok (.ifCond .eq 25, 3) := by decide +kernel
theorem dL_prints_624 : decode cL_prints 624 = .ok (.iload 10, 2) := by decide +kernel
theorem dL_prints_626 : decode cL_prints 626 = .ok (.iload 15, 2) := by decide +kernel
theorem dL_prints_628 : decode cL_prints 628 = .ok (.ishr, 1) := by decide +kernel
theorem dL_prints_629 : decode cL_prints 629 = .ok (.iconst 1, 1) := by decide +kernel
theorem dL_prints_630 : decode cL_prints 630 = .ok (.iand, 1) := by decide +kernel
theorem dL_prints_631 : decode cL_prints 631 = .ok (.iconst 1, 1) := by decide +kernel
theorem dL_prints_632 : decode cL_prints 632 = .ok (.if_icmp .ne 14, 3) := by decide +kernel
theorem dL_prints_635 : decode cL_prints 635 = .ok (.aload 13, 2) := by decide +kernel
theorem dL_prints_637 : decode cL_prints 637 = .ok (.iload 15, 2) := by decide +kernel
theorem dL_prints_639 : decode cL_prints 639 = .ok (.iaload, 1) := by decide +kernel
theorem dL_prints_640 : decode cL_prints 640 = .ok (.iload 9, 2) := by decide +kernel
theorem dL_prints_642 : decode cL_prints 642 = .ok (.iadd, 1) := by decide +kernel
theorem dL_prints_643 : decode cL_prints 643 = .ok (.goto 8, 3) := by decide +kernel
theorem dL_prints_646 : decode cL_prints 646 = .ok (.aload 13, 2) := by decide +kernel
theorem dL_prints_648 : decode cL_prints 648 = .ok (.iload 15, 2) := by decide +kernel
theorem dL_prints_650 : decode cL_prints 650 = .ok (.iaload, 1) := by decide +kernel
theorem dL_prints_651 : decode cL_prints 651 = .ok (.istore 16, 2) := by decide +kernel
theorem dL_prints_653 : decode cL_prints 653 = .ok (.iload 14, 2) := by decide +kernel
theorem dL_prints_655 : decode cL_prints 655 = .ok (.ifCond .eq 38, 3) := by decide +kernel
theorem dL_prints_658 : decode cL_prints 658 = .ok (.aload_n 0, 1) := by decide +kernel
theorem dL_prints_659 : decode cL_prints 659 = .ok (.iload 7, 2) := by decide +kernel
theorem dL_prints_661 : decode cL_prints 661 = .ok (.iload 15, 2) := by decide +kernel
theorem dL_prints_663 : decode cL_prints 663 = .ok (.iconst 4, 1) := by decide +kernel
theorem dL_prints_664 : decode cL_prints 664 = .ok (.idiv, 1) := by decide +kernel
theorem dL_prints_665 : decode cL_prints 665 = .ok (.iload 15, 2) := by decide +kernel
theorem dL_prints_667 : decode cL_prints 667 = .ok (.iconst 4, 1) := by decide +kernel
theorem dL_prints_668 : decode cL_prints 668 = .ok (.irem, 1) := by decide +kernel
theorem dL_prints_669 : decode cL_prints 669 = .ok (.invokestatic 189, 3) := by decide +kernel
theorem dL_prints_672 : decode cL_prints 672 = .ok (.iload 16, 2) := by decide +kernel
theorem dL_prints_674 : decode cL_prints 674 = .ok (.sipush 1000, 3) := by decide +kernel
theorem dL_prints_677 : decode cL_prints 677 = .ok (.if_icmp .ne 7, 3) := by decide +kernel
theorem dL_prints_680 : decode cL_prints 680 = .ok (.iconst (-1), 1) := by decide +kernel
theorem dL_prints_681 : decode cL_prints 681 = .ok (.goto 5, 3) := by decide +kernel
theorem dL_prints_684 : decode cL_prints 684 = .ok (.iload 16, 2) := by decide +kernel
theorem dL_prints_686 : decode cL_prints 686 = .ok (.if_icmp .ne 7, 3) := by decide +kernel
theorem dL_prints_689 : decode cL_prints 689 = .ok (.iconst 1, 1) := by decide +kernel
theorem dL_prints_690 : decode cL_prints 690 = .ok (.goto 4, 3) := by decide +kernel
theorem dL_prints_693 : decode cL_prints 693 = .ok (.iconst 0, 1) := by decide +kernel
theorem dL_prints_694 : decode cL_prints 694 = .ok (.istore 14, 2) := by decide +kernel
theorem dL_prints_696 : decode cL_prints 696 = .ok (.iinc 15 1, 3) := by decide +kernel
theorem dL_prints_699 : decode cL_prints 699 = .ok (.goto (-87), 3) := by decide +kernel
theorem dL_prints_702 : decode cL_prints 702 = .ok (.iload 14, 2) := by decide +kernel
theorem dL_prints_704 : decode cL_prints 704 = .ok (.ireturn, 1) := by decide +kernel
