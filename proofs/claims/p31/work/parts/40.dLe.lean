theorem dL_orders_376 : decode cL_orders 376 = .ok (.if_icmp .ne 7, 3) := by decide +kernel
theorem dL_orders_379 : decode cL_orders 379 = .ok (.iconst 1, 1) := by decide +kernel
theorem dL_orders_380 : decode cL_orders 380 = .ok (.goto 4, 3) := by decide +kernel
theorem dL_orders_383 : decode cL_orders 383 = .ok (.iconst 0, 1) := by decide +kernel
theorem dL_orders_384 : decode cL_orders 384 = .ok (.ireturn, 1) := by decide +kernel
theorem dL_orders_385 : decode cL_orders 385 = .ok (.iload 8, 2) := by decide +kernel
theorem dL_orders_387 : decode cL_orders 387 = .ok (.bipush 7, 2) := by decide +kernel
theorem dL_orders_389 : decode cL_orders 389 = .ok (.if_icmp .ge 161, 3) := by decide +kernel
theorem dL_orders_392 : decode cL_orders 392 = .ok (.iload 4, 2) := by decide +kernel
theorem dL_orders_394 : decode cL_orders 394 = .ok (.bipush 9, 2) := by decide +kernel
theorem dL_orders_396 : decode cL_orders 396 = .ok (.ishr, 1) := by decide +kernel
theorem dL_orders_397 : decode cL_orders 397 = .ok (.aload_n 3, 1) := by decide +kernel
theorem dL_orders_398 : decode cL_orders 398 = .ok (.iconst 0, 1) := by decide +kernel
theorem dL_orders_399 : decode cL_orders 399 = .ok (.iaload, 1) := by decide +kernel
theorem dL_orders_400 : decode cL_orders 400 = .ok (.invokestatic 149, 3) := by decide +kernel
theorem dL_orders_403 : decode cL_orders 403 = .ok (.istore 10, 2) := by decide +kernel
theorem dL_orders_405 : decode cL_orders 405 = .ok (.aload_n 1, 1) := by decide +kernel
theorem dL_orders_406 : decode cL_orders 406 = .ok (.iload 9, 2) := by decide +kernel
theorem dL_orders_408 : decode cL_orders 408 = .ok (.iaload, 1) := by decide +kernel
theorem dL_orders_409 : decode cL_orders 409 = .ok (.istore 11, 2) := by decide +kernel
theorem dL_orders_411 : decode cL_orders 411 = .ok (.aload_n 2, 1) := by decide +kernel
theorem dL_orders_412 : decode cL_orders 412 = .ok (.iload 9, 2) := by decide +kernel
theorem dL_orders_414 : decode cL_orders 414 = .ok (.iaload, 1) := by decide +kernel
theorem dL_orders_415 : decode cL_orders 415 = .ok (.istore 12, 2) := by decide +kernel
theorem dL_orders_417 : decode cL_orders 417 = .ok (.iload 9, 2) := by decide +kernel
theorem dL_orders_419 : decode cL_orders 419 = .ok (.istore 13, 2) := by decide +kernel
theorem dL_orders_421 : decode cL_orders 421 = .ok (.iload 13, 2) := by decide +kernel
theorem dL_orders_423 : decode cL_orders 423 = .ok (.iload 10, 2) := by decide +kernel
theorem dL_orders_425 : decode cL_orders 425 = .ok (.if_icmp .eq 71, 3) := by decide +kernel
theorem dL_orders_428 : decode cL_orders 428 = .ok (.aload_n 1, 1) := by decide +kernel
theorem dL_orders_429 : decode cL_orders 429 = .ok (.iload 13, 2) := by decide +kernel
theorem dL_orders_431 : decode cL_orders 431 = .ok (.aload_n 1, 1) := by decide +kernel
theorem dL_orders_432 : decode cL_orders 432 = .ok (.iload 13, 2) := by decide +kernel
theorem dL_orders_434 : decode cL_orders 434 = .ok (.iload 10, 2) := by decide +kernel
theorem dL_orders_436 : decode cL_orders 436 = .ok (.if_icmp .ge 10, 3) := by decide +kernel
theorem dL_orders_439 : decode cL_orders 439 = .ok (.iload 13, 2) := by decide +kernel
theorem dL_orders_441 : decode cL_orders 441 = .ok (.iconst 1, 1) := by decide +kernel
theorem dL_orders_442 : decode cL_orders 442 = .ok (.iadd, 1) := by decide +kernel
theorem dL_orders_443 : decode cL_orders 443 = .ok (.goto 7, 3) := by decide +kernel
theorem dL_orders_446 : decode cL_orders 446 = .ok (.iload 13, 2) := by decide +kernel
theorem dL_orders_448 : decode cL_orders 448 = .ok (.iconst 1, 1) := by decide +kernel
theorem dL_orders_449 : decode cL_orders 449 = .ok (.isub, 1) := by decide +kernel
theorem dL_orders_450 : decode cL_orders 450 = .ok (.iaload, 1) := by decide +kernel
theorem dL_orders_451 : decode cL_orders 451 = .ok (.iastore, 1) := by decide +kernel
theorem dL_orders_452 : decode cL_orders 452 = .ok (.aload_n 2, 1) := by decide +kernel
theorem dL_orders_453 : decode cL_orders 453 = .ok (.iload 13, 2) := by decide +kernel
theorem dL_orders_455 : decode cL_orders 455 = .ok (.aload_n 2, 1) := by decide +kernel
theorem dL_orders_456 : decode cL_orders 456 = .ok (.iload 13, 2) := by decide +kernel
theorem dL_orders_458 : decode cL_orders 458 = .ok (.iload 10, 2) := by decide +kernel
theorem dL_orders_460 : decode cL_orders 460 = .ok (.if_icmp .ge 10, 3) := by decide +kernel
theorem dL_orders_463 : decode cL_orders 463 = .ok (.iload 13, 2) := by decide +kernel
theorem dL_orders_465 : decode cL_orders 465 = .ok (.iconst 1, 1) := by decide +kernel
theorem dL_orders_466 : decode cL_orders 466 = .ok (.iadd, 1) := by decide +kernel
theorem dL_orders_467 : decode cL_orders 467 = .ok (.goto 7, 3) := by decide +kernel
theorem dL_orders_470 : decode cL_orders 470 = .ok (.iload 13, 2) := by decide +kernel
theorem dL_orders_472 : decode cL_orders 472 = .ok (.iconst 1, 1) := by decide +kernel
theorem dL_orders_473 : decode cL_orders 473 = .ok (.isub, 1) := by decide +kernel
theorem dL_orders_474 : decode cL_orders 474 = .ok (.iaload, 1) := by decide +kernel
theorem dL_orders_475 : decode cL_orders 475 = .ok (.iastore, 1) := by decide +kernel
theorem dL_orders_476 : decode cL_orders 476 = .ok (.iload 13, 2) := by decide +kernel
theorem dL_orders_478 : decode cL_orders 478 = .ok (.iload 13, 2) := by decide +kernel
theorem dL_orders_480 : decode cL_orders 480 = .ok (.iload 10, 2) := by decide +kernel
theorem dL_orders_482 : decode cL_orders 482 = .ok (.if_icmp .ge 7, 3) := by decide +kernel
theorem dL_orders_485 : decode cL_orders 485 = .ok (.iconst 1, 1) := by decide +kernel
theorem dL_orders_486 : decode cL_orders 486 = .ok (.goto 4, 3) := by decide +kernel
theorem dL_orders_489 : decode cL_orders 489 = .ok (.iconst (-1), 1) := by decide +kernel
theorem dL_orders_490 : decode cL_orders 490 = .ok (.iadd, 1) := by decide +kernel
theorem dL_orders_491 : decode cL_orders 491 = .ok (.istore 13, 2) := by decide +kernel
theorem dL_orders_493 : decode cL_orders 493 = .ok (.goto (-72), 3) := by decide +kernel
theorem dL_orders_496 : decode cL_orders 496 = .ok (.aload_n 1, 1) := by decide +kernel
theorem dL_orders_497 : decode cL_orders 497 = .ok (.iload 10, 2) := by decide +kernel
theorem dL_orders_499 : decode cL_orders 499 = .ok (.iload 11, 2) := by decide +kernel
theorem dL_orders_501 : decode cL_orders 501 = .ok (.iastore, 1) := by decide +kernel
theorem dL_orders_502 : decode cL_orders 502 = .ok (.aload_n 2, 1) := by decide +kernel
theorem dL_orders_503 : decode cL_orders 503 = .ok (.iload 10, 2) := by decide +kernel
theorem dL_orders_505 : decode cL_orders 505 = .ok (.iload 12, 2) := by decide +kernel
theorem dL_orders_507 : decode cL_orders 507 = .ok (.iastore, 1) := by decide +kernel
theorem dL_orders_508 : decode cL_orders 508 = .ok (.aload_n 0, 1) := by decide +kernel
theorem dL_orders_509 : decode cL_orders 509 = .ok (.iload 9, 2) := by decide +kernel
theorem dL_orders_511 : decode cL_orders 511 = .ok (.iload 10, 2) := by decide +kernel
theorem dL_orders_513 : decode cL_orders 513 = .ok (.invokestatic 157, 3) := by decide +kernel
theorem dL_orders_516 : decode cL_orders 516 = .ok (.ifCond .ne 32, 3) := by decide +kernel
theorem dL_orders_519 : decode cL_orders 519 = .ok (.aload_n 0, 1) := by decide +kernel
theorem dL_orders_520 : decode cL_orders 520 = .ok (.iload 9, 2) := by decide +kernel
theorem dL_orders_522 : decode cL_orders 522 = .ok (.aload_n 3, 1) := by decide +kernel
theorem dL_orders_523 : decode cL_orders 523 = .ok (.iconst 0, 1) := by decide +kernel
theorem dL_orders_524 : decode cL_orders 524 = .ok (.iaload, 1) := by decide +kernel
theorem dL_orders_525 : decode cL_orders 525 = .ok (.invokestatic 157, 3) := by decide +kernel
theorem dL_orders_528 : decode cL_orders 528 = .ok (.ldc 18, 2) := by decide +kernel
theorem dL_orders_530 : decode cL_orders 530 = .ok (.if_icmp .ne 18, 3) := by decide +kernel
theorem dL_orders_533 : decode cL_orders 533 = .ok (.aload_n 0, 1) := by decide +kernel
theorem dL_orders_534 : decode cL_orders 534 = .ok (.iconst (-1), 1) := by decide +kernel
theorem dL_orders_535 : decode cL_orders 535 = .ok (.iconst 0, 1) := by decide +kernel
theorem dL_orders_536 : decode cL_orders 536 = .ok (.invokestatic 157, 3) := by decide +kernel
theorem dL_orders_539 : decode cL_orders 539 = .ok (.ldc 18, 2) := by decide +kernel
theorem dL_orders_541 : decode cL_orders 541 = .ok (.if_icmp .ne 7, 3) := by decide +kernel
theorem dL_orders_544 : decode cL_orders 544 = .ok (.iconst 1, 1) := by decide +kernel
theorem dL_orders_545 : decode cL_orders 545 = .ok (.goto 4, 3) := by decide +kernel
theorem dL_orders_548 : decode cL_orders 548 = .ok (.iconst 0, 1) := by decide +kernel
theorem dL_orders_549 : decode cL_orders 549 = .ok (.ireturn, 1) := by decide +kernel
theorem dL_orders_550 : decode cL_orders 550 = .ok (.iload 8, 2) := by decide +kernel
theorem dL_orders_552 : decode cL_orders 552 = .ok (.bipush 9, 2) := by decide +kernel
theorem dL_orders_554 : decode cL_orders 554 = .ok (.if_icmp .ge 92, 3) := by decide +kernel
theorem dL_orders_557 : decode cL_orders 557 = .ok (.aload_n 1, 1) := by decide +kernel
theorem dL_orders_558 : decode cL_orders 558 = .ok (.iload 9, 2) := by decide +kernel
theorem dL_orders_560 : decode cL_orders 560 = .ok (.aload_n 1, 1) := by decide +kernel
theorem dL_orders_561 : decode cL_orders 561 = .ok (.iload 9, 2) := by decide +kernel
theorem dL_orders_563 : decode cL_orders 563 = .ok (.iaload, 1) := by decide +kernel
theorem dL_orders_564 : decode cL_orders 564 = .ok (.sipush 4096, 3) := by decide +kernel
theorem dL_orders_567 : decode cL_orders 567 = .ok (.idiv, 1) := by decide +kernel
theorem dL_orders_568 : decode cL_orders 568 = .ok (.sipush 4096, 3) := by decide +kernel
theorem dL_orders_571 : decode cL_orders 571 = .ok (.imul, 1) := by decide +kernel
theorem dL_orders_572 : decode cL_orders 572 = .ok (.sipush 4096, 3) := by decide +kernel
theorem dL_orders_575 : decode cL_orders 575 = .ok (.iadd, 1) := by decide +kernel
theorem dL_orders_576 : decode cL_orders 576 = .ok (.iload 6, 2) := by decide +kernel
theorem dL_orders_578 : decode cL_orders 578 = .ok (.iadd, 1) := by decide +kernel
theorem dL_orders_579 : decode cL_orders 579 = .ok (.sipush 256, 3) := by decide +kernel
theorem dL_orders_582 : decode cL_orders 582 = .ok (.iload 7, 2) := by decide +kernel
theorem dL_orders_584 : decode cL_orders 584 = .ok (.imul, 1) := by decide +kernel
theorem dL_orders_585 : decode cL_orders 585 = .ok (.iadd, 1) := by decide +kernel
theorem dL_orders_586 : decode cL_orders 586 = .ok (.iastore, 1) := by decide +kernel
theorem dL_orders_587 : decode cL_orders 587 = .ok (.aload_n 2, 1) := by decide +kernel
theorem dL_orders_588 : decode cL_orders 588 = .ok (.iload 9, 2) := by decide +kernel
theorem dL_orders_590 : decode cL_orders 590 = .ok (.iconst 0, 1) := by decide +kernel
theorem dL_orders_591 : decode cL_orders 591 = .ok (.iastore, 1) := by decide +kernel
theorem dL_orders_592 : decode cL_orders 592 = .ok (.aload_n 0, 1) := by decide +kernel
theorem dL_orders_593 : decode cL_orders 593 = .ok (.iload 9, 2) := by decide +kernel
theorem dL_orders_595 : decode cL_orders 595 = .ok (.iload 6, 2) := by decide +kernel
theorem dL_orders_597 : decode cL_orders 597 = .ok (.iload 7, 2) := by decide +kernel
theorem dL_orders_599 : decode cL_orders 599 = .ok (.invokestatic 159, 3) := by decide +kernel
theorem dL_orders_602 : decode cL_orders 602 = .ok (.aload_n 1, 1) := by decide +kernel
theorem dL_orders_603 : decode cL_orders 603 = .ok (.iload 9, 2) := by decide +kernel
theorem dL_orders_605 : decode cL_orders 605 = .ok (.iaload, 1) := by decide +kernel
theorem dL_orders_606 : decode cL_orders 606 = .ok (.sipush 4096, 3) := by decide +kernel
theorem dL_orders_609 : decode cL_orders 609 = .ok (.idiv, 1) := by decide +kernel
theorem dL_orders_610 : decode cL_orders 610 = .ok (.if_icmp .ne 34, 3) := by decide +kernel
theorem dL_orders_613 : decode cL_orders 613 = .ok (.aload_n 0, 1) := by decide +kernel
theorem dL_orders_614 : decode cL_orders 614 = .ok (.iload 9, 2) := by decide +kernel
theorem dL_orders_616 : decode cL_orders 616 = .ok (.iconst (-1), 1) := by decide +kernel
theorem dL_orders_617 : decode cL_orders 617 = .ok (.iconst 0, 1) := by decide +kernel
theorem dL_orders_618 : decode cL_orders 618 = .ok (.invokestatic 159, 3) := by decide +kernel
theorem dL_orders_621 : decode cL_orders 621 = .ok (.ldc 21, 2) := by decide +kernel
theorem dL_orders_623 : decode cL_orders 623 = .ok (.if_icmp .ne 21, 3) := by decide +kernel
theorem dL_orders_626 : decode cL_orders 626 = .ok (.aload_n 0, 1) := by decide +kernel
theorem dL_orders_627 : decode cL_orders 627 = .ok (.aload_n 3, 1) := by decide +kernel
theorem dL_orders_628 : decode cL_orders 628 = .ok (.iconst 0, 1) := by decide +kernel
theorem dL_orders_629 : decode cL_orders 629 = .ok (.iaload, 1) := by decide +kernel
theorem dL_orders_630 : decode cL_orders 630 = .ok (.iconst (-1), 1) := by decide +kernel
theorem dL_orders_631 : decode cL_orders 631 = .ok (.iconst 0, 1) := by decide +kernel
theorem dL_orders_632 : decode cL_orders 632 = .ok (.invokestatic 159, 3) := by decide +kernel
theorem dL_orders_635 : decode cL_orders 635 = .ok (.ldc 18, 2) := by decide +kernel
theorem dL_orders_637 : decode cL_orders 637 = .ok (.if_icmp .ne 7, 3) := by decide +kernel
theorem dL_orders_640 : decode cL_orders 640 = .ok (.iconst 1, 1) := by decide +kernel
theorem dL_orders_641 : decode cL_orders 641 = .ok (.goto 4, 3) := by decide +kernel
theorem dL_orders_644 : decode cL_orders 644 = .ok (.iconst 0, 1) := by decide +kernel
theorem dL_orders_645 : decode cL_orders 645 = .ok (.ireturn, 1) := by decide +kernel
theorem dL_orders_646 : decode cL_orders 646 = .ok (.iload 5, 2) := by decide +kernel
theorem dL_orders_648 : decode cL_orders 648 = .ok (.bipush 8, 2) := by decide +kernel
theorem dL_orders_650 : decode cL_orders 650 = .ok (.invokestatic 149, 3) := by decide +kernel
theorem dL_orders_653 : decode cL_orders 653 = .ok (.istore 10, 2) := by decide +kernel
theorem dL_orders_655 : decode cL_orders 655 = .ok (.iload 5, 2) := by decide +kernel
theorem dL_orders_657 : decode cL_orders 657 = .ok (.iconst 3, 1) := by decide +kernel
theorem dL_orders_658 : decode cL_orders 658 = .ok (.ishr, 1) := by decide +kernel
theorem dL_orders_659 : decode cL_orders 659 = .ok (.bipush 8, 2) := by decide +kernel
theorem dL_orders_661 : decode cL_orders 661 = .ok (.invokestatic 149, 3) := by decide +kernel
theorem dL_orders_664 : decode cL_orders 664 = .ok (.istore 11, 2) := by decide +kernel
theorem dL_orders_666 : decode cL_orders 666 = .ok (.iconst 0, 1) := by decide +kernel
theorem dL_orders_667 : decode cL_orders 667 = .ok (.istore 12, 2) := by decide +kernel
theorem dL_orders_669 : decode cL_orders 669 = .ok (.iconst 0, 1) := by decide +kernel
theorem dL_orders_670 : decode cL_orders 670 = .ok (.istore 13, 2) := by decide +kernel
theorem dL_orders_672 : decode cL_orders 672 = .ok (.iload 13, 2) := by decide +kernel
theorem dL_orders_674 : decode cL_orders 674 = .ok (.aload_n 3, 1) := by decide +kernel
theorem dL_orders_675 : decode cL_orders 675 = .ok (.iconst 0, 1) := by decide +kernel
theorem dL_orders_676 : decode cL_orders 676 = .ok (.iaload, 1) := by decide +kernel
theorem dL_orders_677 : decode cL_orders 677 = .ok (.if_icmp .ge 61, 3) := by decide +kernel
theorem dL_orders_680 : decode cL_orders 680 = .ok (.iload 10, 2) := by decide +kernel
theorem dL_orders_682 : decode cL_orders 682 = .ok (.iload 11, 2) := by decide +kernel
theorem dL_orders_684 : decode cL_orders 684 = .ok (.if_icmp .eq 54, 3) := by decide +kernel
theorem dL_orders_687 : decode cL_orders 687 = .ok (.aload_n 1, 1) := by decide +kernel
theorem dL_orders_688 : decode cL_orders 688 = .ok (.iload 13, 2) := by decide +kernel
theorem dL_orders_690 : decode cL_orders 690 = .ok (.iaload, 1) := by decide +kernel
theorem dL_orders_691 : decode cL_orders 691 = .ok (.iload 10, 2) := by decide +kernel
theorem dL_orders_693 : decode cL_orders 693 = .ok (.ishr, 1) := by decide +kernel
theorem dL_orders_694 : decode cL_orders 694 = .ok (.iconst 1, 1) := by decide +kernel
theorem dL_orders_695 : decode cL_orders 695 = .ok (.iand, 1) := by decide +kernel
theorem dL_orders_696 : decode cL_orders 696 = .ok (.iconst 1, 1) := by decide +kernel
theorem dL_orders_697 : decode cL_orders 697 = .ok (.if_icmp .ne 35, 3) := by decide +kernel
theorem dL_orders_700 : decode cL_orders 700 = .ok (.aload_n 1, 1) := by decide +kernel
theorem dL_orders_701 : decode cL_orders 701 = .ok (.iload 13, 2) := by decide +kernel
theorem dL_orders_703 : decode cL_orders 703 = .ok (.aload_n 1, 1) := by decide +kernel
theorem dL_orders_704 : decode cL_orders 704 = .ok (.iload 13, 2) := by decide +kernel
theorem dL_orders_706 : decode cL_orders 706 = .ok (.iaload, 1) := by decide +kernel
theorem dL_orders_707 : decode cL_orders 707 = .ok (.iconst 1, 1) := by decide +kernel
theorem dL_orders_708 : decode cL_orders 708 = .ok (.iload 10, 2) := by decide +kernel
theorem dL_orders_710 : decode cL_orders 710 = .ok (.ishl, 1) := by decide +kernel
theorem dL_orders_711 : decode cL_orders 711 = .ok (.iconst (-1), 1) := by decide +kernel
theorem dL_orders_712 : decode cL_orders 712 = .ok (.ixor, 1) := by decide +kernel
theorem dL_orders_713 : decode cL_orders 713 = .ok (.iand, 1) := by decide +kernel
theorem dL_orders_714 : decode cL_orders 714 = .ok (.iconst 1, 1) := by decide +kernel
theorem dL_orders_715 : decode cL_orders 715 = .ok (.iload 11, 2) := by decide +kernel
theorem dL_orders_717 : decode cL_orders 717 = .ok (.ishl, 1) := by decide +kernel
theorem dL_orders_718 : decode cL_orders 718 = .ok (.ior, 1) := by decide +kernel
theorem dL_orders_719 : decode cL_orders 719 = .ok (.sipush 4096, 3) := by decide +kernel
theorem dL_orders_722 : decode cL_orders 722 = .ok (.iadd, 1) := by decide +kernel
theorem dL_orders_723 : decode cL_orders 723 = .ok (.iastore, 1) := by decide +kernel
theorem dL_orders_724 : decode cL_orders 724 = .ok (.aload_n 2, 1) := by decide +kernel
theorem dL_orders_725 : decode cL_orders 725 = .ok (.iload 13, 2) := by decide +kernel
theorem dL_orders_727 : decode cL_orders 727 = .ok (.iconst 0, 1) := by decide +kernel
theorem dL_orders_728 : decode cL_orders 728 = .ok (.iastore, 1) := by decide +kernel
theorem dL_orders_729 : decode cL_orders 729 = .ok (.iinc 12 1, 3) := by decide +kernel
theorem dL_orders_732 : decode cL_orders 732 = .ok (.iinc 13 1, 3) := by decide +kernel
theorem dL_orders_735 : decode cL_orders 735 = .ok (.goto (-63), 3) := by decide +kernel
theorem dL_orders_738 : decode cL_orders 738 = .ok (.aload_n 0, 1) := by decide +kernel
theorem dL_orders_739 : decode cL_orders 739 = .ok (.iload 10, 2) := by decide +kernel
theorem dL_orders_741 : decode cL_orders 741 = .ok (.iload 11, 2) := by decide +kernel
theorem dL_orders_743 : decode cL_orders 743 = .ok (.invokestatic 161, 3) := by decide +kernel
theorem dL_orders_746 : decode cL_orders 746 = .ok (.iload 10, 2) := by decide +kernel
theorem dL_orders_748 : decode cL_orders 748 = .ok (.iload 11, 2) := by decide +kernel
theorem dL_orders_750 : decode cL_orders 750 = .ok (.if_icmp .ne 8, 3) := by decide +kernel
theorem dL_orders_753 : decode cL_orders 753 = .ok (.ldc 21, 2) := by decide +kernel
theorem dL_orders_755 : decode cL_orders 755 = .ok (.goto 5, 3) := by decide +kernel
theorem dL_orders_758 : decode cL_orders 758 = .ok (.iload 12, 2) := by decide +kernel
theorem dL_orders_760 : decode cL_orders 760 = .ok (.if_icmp .ne 19, 3) := by decide +kernel
theorem dL_orders_763 : decode cL_orders 763 = .ok (.aload_n 0, 1) := by decide +kernel
theorem dL_orders_764 : decode cL_orders 764 = .ok (.bipush 8, 2) := by decide +kernel
theorem dL_orders_766 : decode cL_orders 766 = .ok (.iconst 0, 1) := by decide +kernel
theorem dL_orders_767 : decode cL_orders 767 = .ok (.invokestatic 161, 3) := by decide +kernel
theorem dL_orders_770 : decode cL_orders 770 = .ok (.ldc 21, 2) := by decide +kernel
theorem dL_orders_772 : decode cL_orders 772 = .ok (.if_icmp .ne 7, 3) := by decide +kernel
theorem dL_orders_775 : decode cL_orders 775 = .ok (.iconst 1, 1) := by decide +kernel
theorem dL_orders_776 : decode cL_orders 776 = .ok (.goto 4, 3) := by decide +kernel
theorem dL_orders_779 : decode cL_orders 779 = .ok (.iconst 0, 1) := by decide +kernel
theorem dL_orders_780 : decode cL_orders 780 = .ok (.ireturn, 1) := by decide +kernel
