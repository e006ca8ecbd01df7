theorem d_L_law_412 : decode code 412 = .ok (.iconst 2, 1) := by decide +kernel
theorem d_L_law_413 : decode code 413 = .ok (.iadd, 1) := by decide +kernel
theorem d_L_law_414 : decode code 414 = .ok (.iaload, 1) := by decide +kernel
theorem d_L_law_415 : decode code 415 = .ok (.aload_n 0, 1) := by decide +kernel
theorem d_L_law_416 : decode code 416 = .ok (.iload 4, 2) := by decide +kernel
theorem d_L_law_418 : decode code 418 = .ok (.iconst 3, 1) := by decide +kernel
theorem d_L_law_419 : decode code 419 = .ok (.iadd, 1) := by decide +kernel
theorem d_L_law_420 : decode code 420 = .ok (.iaload, 1) := by decide +kernel
theorem d_L_law_421 : decode code 421 = .ok (.invokevirtual 84, 3) := by decide +kernel
theorem d_L_law_424 : decode code 424 = .ok (.if_icmp .eq 759, 3) := by decide +kernel
theorem d_L_law_427 : decode code 427 = .ok (.iconst 0, 1) := by decide +kernel
theorem d_L_law_428 : decode code 428 = .ok (.ireturn, 1) := by decide +kernel
theorem d_L_law_429 : decode code 429 = .ok (.aload_n 1, 1) := by decide +kernel
theorem d_L_law_430 : decode code 430 = .ok (.aload_n 0, 1) := by decide +kernel
theorem d_L_law_431 : decode code 431 = .ok (.iload 4, 2) := by decide +kernel
theorem d_L_law_433 : decode code 433 = .ok (.iconst 1, 1) := by decide +kernel
theorem d_L_law_434 : decode code 434 = .ok (.iadd, 1) := by decide +kernel
theorem d_L_law_435 : decode code 435 = .ok (.iaload, 1) := by decide +kernel
theorem d_L_law_436 : decode code 436 = .ok (.aload_n 0, 1) := by decide +kernel
theorem d_L_law_437 : decode code 437 = .ok (.iload 4, 2) := by decide +kernel
theorem d_L_law_439 : decode code 439 = .ok (.iconst 2, 1) := by decide +kernel
theorem d_L_law_440 : decode code 440 = .ok (.iadd, 1) := by decide +kernel
theorem d_L_law_441 : decode code 441 = .ok (.iaload, 1) := by decide +kernel
theorem d_L_law_442 : decode code 442 = .ok (.aload_n 3, 1) := by decide +kernel
theorem d_L_law_443 : decode code 443 = .ok (.invokestatic 85, 3) := by decide +kernel
theorem d_L_law_446 : decode code 446 = .ok (.istore 5, 2) := by decide +kernel
theorem d_L_law_448 : decode code 448 = .ok (.aload_n 2, 1) := by decide +kernel
theorem d_L_law_449 : decode code 449 = .ok (.aload_n 0, 1) := by decide +kernel
theorem d_L_law_450 : decode code 450 = .ok (.iload 4, 2) := by decide +kernel
theorem d_L_law_452 : decode code 452 = .ok (.iconst 1, 1) := by decide +kernel
theorem d_L_law_453 : decode code 453 = .ok (.iadd, 1) := by decide +kernel
theorem d_L_law_454 : decode code 454 = .ok (.iaload, 1) := by decide +kernel
theorem d_L_law_455 : decode code 455 = .ok (.aload_n 0, 1) := by decide +kernel
theorem d_L_law_456 : decode code 456 = .ok (.iload 4, 2) := by decide +kernel
theorem d_L_law_458 : decode code 458 = .ok (.iconst 2, 1) := by decide +kernel
theorem d_L_law_459 : decode code 459 = .ok (.iadd, 1) := by decide +kernel
theorem d_L_law_460 : decode code 460 = .ok (.iaload, 1) := by decide +kernel
theorem d_L_law_461 : decode code 461 = .ok (.invokevirtual 87, 3) := by decide +kernel
theorem d_L_law_464 : decode code 464 = .ok (.istore 6, 2) := by decide +kernel
theorem d_L_law_466 : decode code 466 = .ok (.aload_n 2, 1) := by decide +kernel
theorem d_L_law_467 : decode code 467 = .ok (.invokevirtual 74, 3) := by decide +kernel
theorem d_L_law_470 : decode code 470 = .ok (.iload 5, 2) := by decide +kernel
theorem d_L_law_472 : decode code 472 = .ok (.if_icmp .eq 5, 3) := by decide +kernel
theorem d_L_law_475 : decode code 475 = .ok (.iconst 0, 1) := by decide +kernel
theorem d_L_law_476 : decode code 476 = .ok (.ireturn, 1) := by decide +kernel
theorem d_L_law_477 : decode code 477 = .ok (.iload 5, 2) := by decide +kernel
theorem d_L_law_479 : decode code 479 = .ok (.ifCond .ne 15, 3) := by decide +kernel
theorem d_L_law_482 : decode code 482 = .ok (.aload_n 3, 1) := by decide +kernel
theorem d_L_law_483 : decode code 483 = .ok (.iconst 0, 1) := by decide +kernel
theorem d_L_law_484 : decode code 484 = .ok (.laload, 1) := by decide +kernel
theorem d_L_law_485 : decode code 485 = .ok (.iload 6, 2) := by decide +kernel
theorem d_L_law_487 : decode code 487 = .ok (.i2l, 1) := by decide +kernel
theorem d_L_law_488 : decode code 488 = .ok (.lcmp, 1) := by decide +kernel
theorem d_L_law_489 : decode code 489 = .ok (.ifCond .eq 5, 3) := by decide +kernel
theorem d_L_law_492 : decode code 492 = .ok (.iconst 0, 1) := by decide +kernel
theorem d_L_law_493 : decode code 493 = .ok (.ireturn, 1) := by decide +kernel
theorem d_L_law_494 : decode code 494 = .ok (.goto 689, 3) := by decide +kernel
theorem d_L_law_497 : decode code 497 = .ok (.aload_n 1, 1) := by decide +kernel
theorem d_L_law_498 : decode code 498 = .ok (.aload_n 0, 1) := by decide +kernel
theorem d_L_law_499 : decode code 499 = .ok (.iload 4, 2) := by decide +kernel
theorem d_L_law_501 : decode code 501 = .ok (.iconst 1, 1) := by decide +kernel
theorem d_L_law_502 : decode code 502 = .ok (.iadd, 1) := by decide +kernel
theorem d_L_law_503 : decode code 503 = .ok (.iaload, 1) := by decide +kernel
theorem d_L_law_504 : decode code 504 = .ok (.aload_n 0, 1) := by decide +kernel
theorem d_L_law_505 : decode code 505 = .ok (.iload 4, 2) := by decide +kernel
theorem d_L_law_507 : decode code 507 = .ok (.iconst 2, 1) := by decide +kernel
theorem d_L_law_508 : decode code 508 = .ok (.iadd, 1) := by decide +kernel
theorem d_L_law_509 : decode code 509 = .ok (.iaload, 1) := by decide +kernel
theorem d_L_law_510 : decode code 510 = .ok (.aload_n 0, 1) := by decide +kernel
theorem d_L_law_511 : decode code 511 = .ok (.iload 4, 2) := by decide +kernel
theorem d_L_law_513 : decode code 513 = .ok (.iconst 3, 1) := by decide +kernel
theorem d_L_law_514 : decode code 514 = .ok (.iadd, 1) := by decide +kernel
theorem d_L_law_515 : decode code 515 = .ok (.iaload, 1) := by decide +kernel
theorem d_L_law_516 : decode code 516 = .ok (.aload_n 3, 1) := by decide +kernel
theorem d_L_law_517 : decode code 517 = .ok (.invokestatic 88, 3) := by decide +kernel
theorem d_L_law_520 : decode code 520 = .ok (.istore 5, 2) := by decide +kernel
theorem d_L_law_522 : decode code 522 = .ok (.aload_n 2, 1) := by decide +kernel
theorem d_L_law_523 : decode code 523 = .ok (.aload_n 0, 1) := by decide +kernel
theorem d_L_law_524 : decode code 524 = .ok (.iload 4, 2) := by decide +kernel
theorem d_L_law_526 : decode code 526 = .ok (.iconst 1, 1) := by decide +kernel
theorem d_L_law_527 : decode code 527 = .ok (.iadd, 1) := by decide +kernel
theorem d_L_law_528 : decode code 528 = .ok (.iaload, 1) := by decide +kernel
theorem d_L_law_529 : decode code 529 = .ok (.aload_n 0, 1) := by decide +kernel
theorem d_L_law_530 : decode code 530 = .ok (.iload 4, 2) := by decide +kernel
theorem d_L_law_532 : decode code 532 = .ok (.iconst 2, 1) := by decide +kernel
theorem d_L_law_533 : decode code 533 = .ok (.iadd, 1) := by decide +kernel
theorem d_L_law_534 : decode code 534 = .ok (.iaload, 1) := by decide +kernel
theorem d_L_law_535 : decode code 535 = .ok (.aload_n 0, 1) := by decide +kernel
theorem d_L_law_536 : decode code 536 = .ok (.iload 4, 2) := by decide +kernel
theorem d_L_law_538 : decode code 538 = .ok (.iconst 3, 1) := by decide +kernel
theorem d_L_law_539 : decode code 539 = .ok (.iadd, 1) := by decide +kernel
theorem d_L_law_540 : decode code 540 = .ok (.iaload, 1) := by decide +kernel
theorem d_L_law_541 : decode code 541 = .ok (.invokevirtual 91, 3) := by decide +kernel
theorem d_L_law_544 : decode code 544 = .ok (.istore 6, 2) := by decide +kernel
theorem d_L_law_546 : decode code 546 = .ok (.aload_n 2, 1) := by decide +kernel
theorem d_L_law_547 : decode code 547 = .ok (.invokevirtual 74, 3) := by decide +kernel
theorem d_L_law_550 : decode code 550 = .ok (.iload 5, 2) := by decide +kernel
theorem d_L_law_552 : decode code 552 = .ok (.if_icmp .eq 5, 3) := by decide +kernel
theorem d_L_law_555 : decode code 555 = .ok (.iconst 0, 1) := by decide +kernel
theorem d_L_law_556 : decode code 556 = .ok (.ireturn, 1) := by decide +kernel
theorem d_L_law_557 : decode code 557 = .ok (.iload 5, 2) := by decide +kernel
theorem d_L_law_559 : decode code 559 = .ok (.ifCond .ne 15, 3) := by decide +kernel
theorem d_L_law_562 : decode code 562 = .ok (.aload_n 3, 1) := by decide +kernel
theorem d_L_law_563 : decode code 563 = .ok (.iconst 0, 1) := by decide +kernel
theorem d_L_law_564 : decode code 564 = .ok (.laload, 1) := by decide +kernel
theorem d_L_law_565 : decode code 565 = .ok (.iload 6, 2) := by decide +kernel
theorem d_L_law_567 : decode code 567 = .ok (.i2l, 1) := by decide +kernel
theorem d_L_law_568 : decode code 568 = .ok (.lcmp, 1) := by decide +kernel
theorem d_L_law_569 : decode code 569 = .ok (.ifCond .eq 5, 3) := by decide +kernel
theorem d_L_law_572 : decode code 572 = .ok (.iconst 0, 1) := by decide +kernel
theorem d_L_law_573 : decode code 573 = .ok (.ireturn, 1) := by decide +kernel
theorem d_L_law_574 : decode code 574 = .ok (.goto 609, 3) := by decide +kernel
theorem d_L_law_577 : decode code 577 = .ok (.aload_n 1, 1) := by decide +kernel
theorem d_L_law_578 : decode code 578 = .ok (.aload_n 0, 1) := by decide +kernel
theorem d_L_law_579 : decode code 579 = .ok (.iload 4, 2) := by decide +kernel
theorem d_L_law_581 : decode code 581 = .ok (.iconst 1, 1) := by decide +kernel
theorem d_L_law_582 : decode code 582 = .ok (.iadd, 1) := by decide +kernel
theorem d_L_law_583 : decode code 583 = .ok (.iaload, 1) := by decide +kernel
theorem d_L_law_584 : decode code 584 = .ok (.aload_n 0, 1) := by decide +kernel
theorem d_L_law_585 : decode code 585 = .ok (.iload 4, 2) := by decide +kernel
theorem d_L_law_587 : decode code 587 = .ok (.iconst 2, 1) := by decide +kernel
theorem d_L_law_588 : decode code 588 = .ok (.iadd, 1) := by decide +kernel
theorem d_L_law_589 : decode code 589 = .ok (.iaload, 1) := by decide +kernel
theorem d_L_law_590 : decode code 590 = .ok (.aload_n 3, 1) := by decide +kernel
theorem d_L_law_591 : decode code 591 = .ok (.invokestatic 92, 3) := by decide +kernel
theorem d_L_law_594 : decode code 594 = .ok (.istore 5, 2) := by decide +kernel
theorem d_L_law_596 : decode code 596 = .ok (.aload_n 2, 1) := by decide +kernel
theorem d_L_law_597 : decode code 597 = .ok (.aload_n 0, 1) := by decide +kernel
theorem d_L_law_598 : decode code 598 = .ok (.iload 4, 2) := by decide +kernel
theorem d_L_law_600 : decode code 600 = .ok (.iconst 1, 1) := by decide +kernel
theorem d_L_law_601 : decode code 601 = .ok (.iadd, 1) := by decide +kernel
theorem d_L_law_602 : decode code 602 = .ok (.iaload, 1) := by decide +kernel
theorem d_L_law_603 : decode code 603 = .ok (.aload_n 0, 1) := by decide +kernel
theorem d_L_law_604 : decode code 604 = .ok (.iload 4, 2) := by decide +kernel
theorem d_L_law_606 : decode code 606 = .ok (.iconst 2, 1) := by decide +kernel
theorem d_L_law_607 : decode code 607 = .ok (.iadd, 1) := by decide +kernel
theorem d_L_law_608 : decode code 608 = .ok (.iaload, 1) := by decide +kernel
theorem d_L_law_609 : decode code 609 = .ok (.invokevirtual 94, 3) := by decide +kernel
theorem d_L_law_612 : decode code 612 = .ok (.istore 6, 2) := by decide +kernel
theorem d_L_law_614 : decode code 614 = .ok (.aload_n 2, 1) := by decide +kernel
theorem d_L_law_615 : decode code 615 = .ok (.invokevirtual 74, 3) := by decide +kernel
theorem d_L_law_618 : decode code 618 = .ok (.iload 5, 2) := by decide +kernel
theorem d_L_law_620 : decode code 620 = .ok (.if_icmp .eq 5, 3) := by decide +kernel
theorem d_L_law_623 : decode code 623 = .ok (.iconst 0, 1) := by decide +kernel
theorem d_L_law_624 : decode code 624 = .ok (.ireturn, 1) := by decide +kernel
theorem d_L_law_625 : decode code 625 = .ok (.iload 5, 2) := by decide +kernel
theorem d_L_law_627 : decode code 627 = .ok (.ifCond .ne 15, 3) := by decide +kernel
theorem d_L_law_630 : decode code 630 = .ok (.aload_n 3, 1) := by decide +kernel
theorem d_L_law_631 : decode code 631 = .ok (.iconst 0, 1) := by decide +kernel
theorem d_L_law_632 : decode code 632 = .ok (.laload, 1) := by decide +kernel
theorem d_L_law_633 : decode code 633 = .ok (.iload 6, 2) := by decide +kernel
theorem d_L_law_635 : decode code 635 = .ok (.i2l, 1) := by decide +kernel
theorem d_L_law_636 : decode code 636 = .ok (.lcmp, 1) := by decide +kernel
theorem d_L_law_637 : decode code 637 = .ok (.ifCond .eq 5, 3) := by decide +kernel
theorem d_L_law_640 : decode code 640 = .ok (.iconst 0, 1) := by decide +kernel
theorem d_L_law_641 : decode code 641 = .ok (.ireturn, 1) := by decide +kernel
theorem d_L_law_642 : decode code 642 = .ok (.goto 541, 3) := by decide +kernel
theorem d_L_law_645 : decode code 645 = .ok (.aload_n 1, 1) := by decide +kernel
theorem d_L_law_646 : decode code 646 = .ok (.aload_n 0, 1) := by decide +kernel
theorem d_L_law_647 : decode code 647 = .ok (.iload 4, 2) := by decide +kernel
theorem d_L_law_649 : decode code 649 = .ok (.iconst 1, 1) := by decide +kernel
theorem d_L_law_650 : decode code 650 = .ok (.iadd, 1) := by decide +kernel
theorem d_L_law_651 : decode code 651 = .ok (.iaload, 1) := by decide +kernel
theorem d_L_law_652 : decode code 652 = .ok (.aload_n 0, 1) := by decide +kernel
theorem d_L_law_653 : decode code 653 = .ok (.iload 4, 2) := by decide +kernel
theorem d_L_law_655 : decode code 655 = .ok (.iconst 2, 1) := by decide +kernel
theorem d_L_law_656 : decode code 656 = .ok (.iadd, 1) := by decide +kernel
theorem d_L_law_657 : decode code 657 = .ok (.iaload, 1) := by decide +kernel
theorem d_L_law_658 : decode code 658 = .ok (.aload_n 0, 1) := by decide +kernel
theorem d_L_law_659 : decode code 659 = .ok (.iload 4, 2) := by decide +kernel
theorem d_L_law_661 : decode code 661 = .ok (.iconst 3, 1) := by decide +kernel
theorem d_L_law_662 : decode code 662 = .ok (.iadd, 1) := by decide +kernel
theorem d_L_law_663 : decode code 663 = .ok (.iaload, 1) := by decide +kernel
theorem d_L_law_664 : decode code 664 = .ok (.aload_n 3, 1) := by decide +kernel
theorem d_L_law_665 : decode code 665 = .ok (.invokestatic 95, 3) := by decide +kernel
theorem d_L_law_668 : decode code 668 = .ok (.istore 5, 2) := by decide +kernel
theorem d_L_law_670 : decode code 670 = .ok (.aload_n 2, 1) := by decide +kernel
theorem d_L_law_671 : decode code 671 = .ok (.aload_n 0, 1) := by decide +kernel
theorem d_L_law_672 : decode code 672 = .ok (.iload 4, 2) := by decide +kernel
theorem d_L_law_674 : decode code 674 = .ok (.iconst 1, 1) := by decide +kernel
theorem d_L_law_675 : decode code 675 = .ok (.iadd, 1) := by decide +kernel
theorem d_L_law_676 : decode code 676 = .ok (.iaload, 1) := by decide +kernel
theorem d_L_law_677 : decode code 677 = .ok (.aload_n 0, 1) := by decide +kernel
theorem d_L_law_678 : decode code 678 = .ok (.iload 4, 2) := by decide +kernel
theorem d_L_law_680 : decode code 680 = .ok (.iconst 2, 1) := by decide +kernel
theorem d_L_law_681 : decode code 681 = .ok (.iadd, 1) := by decide +kernel
theorem d_L_law_682 : decode code 682 = .ok (.iaload, 1) := by decide +kernel
theorem d_L_law_683 : decode code 683 = .ok (.aload_n 0, 1) := by decide +kernel
theorem d_L_law_684 : decode code 684 = .ok (.iload 4, 2) := by decide +kernel
theorem d_L_law_686 : decode code 686 = .ok (.iconst 3, 1) := by decide +kernel
theorem d_L_law_687 : decode code 687 = .ok (.iadd, 1) := by decide +kernel
theorem d_L_law_688 : decode code 688 = .ok (.iaload, 1) := by decide +kernel
theorem d_L_law_689 : decode code 689 = .ok (.invokevirtual 97, 3) := by decide +kernel
theorem d_L_law_692 : decode code 692 = .ok (.istore 6, 2) := by decide +kernel
theorem d_L_law_694 : decode code 694 = .ok (.aload_n 2, 1) := by decide +kernel
theorem d_L_law_695 : decode code 695 = .ok (.invokevirtual 74, 3) := by decide +kernel
theorem d_L_law_698 : decode code 698 = .ok (.iload 5, 2) := by decide +kernel
theorem d_L_law_700 : decode code 700 = .ok (.if_icmp .eq 5, 3) := by decide +kernel
theorem d_L_law_703 : decode code 703 = .ok (.iconst 0, 1) := by decide +kernel
theorem d_L_law_704 : decode code 704 = .ok (.ireturn, 1) := by decide +kernel
theorem d_L_law_705 : decode code 705 = .ok (.iload 5, 2) := by decide +kernel
theorem d_L_law_707 : decode code 707 = .ok (.ifCond .ne 22, 3) := by decide +kernel
theorem d_L_law_710 : decode code 710 = .ok (.aload_n 3, 1) := by decide +kernel
theorem d_L_law_711 : decode code 711 = .ok (.iconst 0, 1) := by decide +kernel
theorem d_L_law_712 : decode code 712 = .ok (.laload, 1) := by decide +kernel
theorem d_L_law_713 : decode code 713 = .ok (.iload 6, 2) := by decide +kernel
theorem d_L_law_715 : decode code 715 = .ok (.ifCond .eq 7, 3) := by decide +kernel
theorem d_L_law_718 : decode code 718 = .ok (.lconst 1, 1) := by decide +kernel
theorem d_L_law_719 : decode code 719 = .ok (.goto 4, 3) := by decide +kernel
theorem d_L_law_722 : decode code 722 = .ok (.lconst 0, 1) := by decide +kernel
theorem d_L_law_723 : decode code 723 = .ok (.lcmp, 1) := by decide +kernel
theorem d_L_law_724 : decode code 724 = .ok (.ifCond .eq 5, 3) := by decide +kernel
theorem d_L_law_727 : decode code 727 = .ok (.iconst 0, 1) := by decide +kernel
theorem d_L_law_728 : decode code 728 = .ok (.ireturn, 1) := by decide +kernel
theorem d_L_law_729 : decode code 729 = .ok (.goto 454, 3) := by decide +kernel
theorem d_L_law_732 : decode code 732 = .ok (.aload_n 1, 1) := by decide +kernel
theorem d_L_law_733 : decode code 733 = .ok (.aload_n 0, 1) := by decide +kernel
theorem d_L_law_734 : decode code 734 = .ok (.iload 4, 2) := by decide +kernel
theorem d_L_law_736 : decode code 736 = .ok (.iconst 1, 1) := by decide +kernel
theorem d_L_law_737 : decode code 737 = .ok (.iadd, 1) := by decide +kernel
theorem d_L_law_738 : decode code 738 = .ok (.iaload, 1) := by decide +kernel
theorem d_L_law_739 : decode code 739 = .ok (.aload_n 0, 1) := by decide +kernel
theorem d_L_law_740 : decode code 740 = .ok (.iload 4, 2) := by decide +kernel
theorem d_L_law_742 : decode code 742 = .ok (.iconst 2, 1) := by decide +kernel
theorem d_L_law_743 : decode code 743 = .ok (.iadd, 1) := by decide +kernel
theorem d_L_law_744 : decode code 744 = .ok (.iaload, 1) := by decide +kernel
theorem d_L_law_745 : decode code 745 = .ok (.aload_n 0, 1) := by decide +kernel
theorem d_L_law_746 : decode code 746 = .ok (.iload 4, 2) := by decide +kernel
theorem d_L_law_748 : decode code 748 = .ok (.iconst 3, 1) := by decide +kernel
theorem d_L_law_749 : decode code 749 = .ok (.iadd, 1) := by decide +kernel
theorem d_L_law_750 : decode code 750 = .ok (.iaload, 1) := by decide +kernel
theorem d_L_law_751 : decode code 751 = .ok (.invokevirtual 98, 3) := by decide +kernel
theorem d_L_law_754 : decode code 754 = .ok (.aload_n 2, 1) := by decide +kernel
theorem d_L_law_755 : decode code 755 = .ok (.aload_n 0, 1) := by decide +kernel
theorem d_L_law_756 : decode code 756 = .ok (.iload 4, 2) := by decide +kernel
theorem d_L_law_758 : decode code 758 = .ok (.iconst 1, 1) := by decide +kernel
theorem d_L_law_759 : decode code 759 = .ok (.iadd, 1) := by decide +kernel
theorem d_L_law_760 : decode code 760 = .ok (.iaload, 1) := by decide +kernel
theorem d_L_law_761 : decode code 761 = .ok (.aload_n 0, 1) := by decide +kernel
theorem d_L_law_762 : decode code 762 = .ok (.iload 4, 2) := by decide +kernel
theorem d_L_law_764 : decode code 764 = .ok (.iconst 2, 1) := by decide +kernel
theorem d_L_law_765 : decode code 765 = .ok (.iadd, 1) := by decide +kernel
theorem d_L_law_766 : decode code 766 = .ok (.iaload, 1) := by decide +kernel
theorem d_L_law_767 : decode code 767 = .ok (.aload_n 0, 1) := by decide +kernel
theorem d_L_law_768 : decode code 768 = .ok (.iload 4, 2) := by decide +kernel
theorem d_L_law_770 : decode code 770 = .ok (.iconst 3, 1) := by decide +kernel
theorem d_L_law_771 : decode code 771 = .ok (.iadd, 1) := by decide +kernel
theorem d_L_law_772 : decode code 772 = .ok (.iaload, 1) := by decide +kernel
theorem d_L_law_773 : decode code 773 = .ok (.invokevirtual 101, 3) := by decide +kernel
theorem d_L_law_776 : decode code 776 = .ok (.if_icmp .eq 407, 3) := by decide +kernel
theorem d_L_law_779 : decode code 779 = .ok (.iconst 0, 1) := by decide +kernel
theorem d_L_law_780 : decode code 780 = .ok (.ireturn, 1) := by decide +kernel
theorem d_L_law_781 : decode code 781 = .ok (.aload_n 1, 1) := by decide +kernel
theorem d_L_law_782 : decode code 782 = .ok (.aload_n 0, 1) := by decide +kernel
theorem d_L_law_783 : decode code 783 = .ok (.iload 4, 2) := by decide +kernel
theorem d_L_law_785 : decode code 785 = .ok (.iconst 1, 1) := by decide +kernel
theorem d_L_law_786 : decode code 786 = .ok (.iadd, 1) := by decide +kernel
theorem d_L_law_787 : decode code 787 = .ok (.iaload, 1) := by decide +kernel
theorem d_L_law_788 : decode code 788 = .ok (.aload_n 0, 1) := by decide +kernel
theorem d_L_law_789 : decode code 789 = .ok (.iload 4, 2) := by decide +kernel
theorem d_L_law_791 : decode code 791 = .ok (.iconst 2, 1) := by decide +kernel
theorem d_L_law_792 : decode code 792 = .ok (.iadd, 1) := by decide +kernel
theorem d_L_law_793 : decode code 793 = .ok (.iaload, 1) := by decide +kernel
theorem d_L_law_794 : decode code 794 = .ok (.aload_n 3, 1) := by decide +kernel
theorem d_L_law_795 : decode code 795 = .ok (.invokestatic 102, 3) := by decide +kernel
theorem d_L_law_798 : decode code 798 = .ok (.istore 5, 2) := by decide +kernel
theorem d_L_law_800 : decode code 800 = .ok (.aload_n 2, 1) := by decide +kernel
theorem d_L_law_801 : decode code 801 = .ok (.aload_n 0, 1) := by decide +kernel
theorem d_L_law_802 : decode code 802 = .ok (.iload 4, 2) := by decide +kernel
theorem d_L_law_804 : decode code 804 = .ok (.iconst 1, 1) := by decide +kernel
theorem d_L_law_805 : decode code 805 = .ok (.iadd, 1) := by decide +kernel
theorem d_L_law_806 : decode code 806 = .ok (.iaload, 1) := by decide +kernel
theorem d_L_law_807 : decode code 807 = .ok (.aload_n 0, 1) := by decide +kernel
theorem d_L_law_808 : decode code 808 = .ok (.iload 4, 2) := by decide +kernel
theorem d_L_law_810 : decode code 810 = .ok (.iconst 2, 1) := by decide +kernel
theorem d_L_law_811 : decode code 811 = .ok (.iadd, 1) := by decide +kernel
theorem d_L_law_812 : decode code 812 = .ok (.iaload, 1) := by decide +kernel
theorem d_L_law_813 : decode code 813 = .ok (.invokevirtual 104, 3) := by decide +kernel
theorem d_L_law_816 : decode code 816 = .ok (.istore 6, 2) := by decide +kernel
theorem d_L_law_818 : decode code 818 = .ok (.aload_n 2, 1) := by decide +kernel
theorem d_L_law_819 : decode code 819 = .ok (.invokevirtual 74, 3) := by decide +kernel
theorem d_L_law_822 : decode code 822 = .ok (.iload 5, 2) := by decide +kernel
theorem d_L_law_824 : decode code 824 = .ok (.if_icmp .eq 5, 3) := by decide +kernel
theorem d_L_law_827 : decode code 827 = .ok (.iconst 0, 1) := by decide +kernel
theorem d_L_law_828 : decode code 828 = .ok (.ireturn, 1) := by decide +kernel
theorem d_L_law_829 : decode code 829 = .ok (.iload 5, 2) := by decide +kernel
theorem d_L_law_831 : decode code 831 = .ok (.ifCond .ne 15, 3) := by decide +kernel
theorem d_L_law_834 : decode code 834 = .ok (.aload_n 3, 1) := by decide +kernel
theorem d_L_law_835 : decode code 835 = .ok (.iconst 0, 1) := by decide +kernel
theorem d_L_law_836 : decode code 836 = .ok (.laload, 1) := by decide +kernel
theorem d_L_law_837 : decode code 837 = .ok (.iload 6, 2) := by decide +kernel
theorem d_L_law_839 : decode code 839 = .ok (.i2l, 1) := by decide +kernel
theorem d_L_law_840 : decode code 840 = .ok (.lcmp, 1) := by decide +kernel
theorem d_L_law_841 : decode code 841 = .ok (.ifCond .eq 5, 3) := by decide +kernel
theorem d_L_law_844 : decode code 844 = .ok (.iconst 0, 1) := by decide +kernel
theorem d_L_law_845 : decode code 845 = .ok (.ireturn, 1) := by decide +kernel
theorem d_L_law_846 : decode code 846 = .ok (.goto 337, 3) := by decide +kernel
theorem d_L_law_849 : decode code 849 = .ok (.aload_n 1, 1) := by decide +kernel
theorem d_L_law_850 : decode code 850 = .ok (.aload_n 0, 1) := by decide +kernel
theorem d_L_law_851 : decode code 851 = .ok (.iload 4, 2) := by decide +kernel
theorem d_L_law_853 : decode code 853 = .ok (.iconst 1, 1) := by decide +kernel
theorem d_L_law_854 : decode code 854 = .ok (.iadd, 1) := by decide +kernel
theorem d_L_law_855 : decode code 855 = .ok (.iaload, 1) := by decide +kernel
theorem d_L_law_856 : decode code 856 = .ok (.aload_n 0, 1) := by decide +kernel
theorem d_L_law_857 : decode code 857 = .ok (.iload 4, 2) := by decide +kernel
theorem d_L_law_859 : decode code 859 = .ok (.iconst 2, 1) := by decide +kernel
theorem d_L_law_860 : decode code 860 = .ok (.iadd, 1) := by decide +kernel
theorem d_L_law_861 : decode code 861 = .ok (.iaload, 1) := by decide +kernel
theorem d_L_law_862 : decode code 862 = .ok (.aload_n 0, 1) := by decide +kernel
theorem d_L_law_863 : decode code 863 = .ok (.iload 4, 2) := by decide +kernel
theorem d_L_law_865 : decode code 865 = .ok (.iconst 3, 1) := by decide +kernel
theorem d_L_law_866 : decode code 866 = .ok (.iadd, 1) := by decide +kernel
theorem d_L_law_867 : decode code 867 = .ok (.iaload, 1) := by decide +kernel
theorem d_L_law_868 : decode code 868 = .ok (.aload_n 0, 1) := by decide +kernel
theorem d_L_law_869 : decode code 869 = .ok (.iload 4, 2) := by decide +kernel
theorem d_L_law_871 : decode code 871 = .ok (.iconst 4, 1) := by decide +kernel
theorem d_L_law_872 : decode code 872 = .ok (.iadd, 1) := by decide +kernel
theorem d_L_law_873 : decode code 873 = .ok (.iaload, 1) := by decide +kernel
theorem d_L_law_874 : decode code 874 = .ok (.aload_n 3, 1) := by decide +kernel
theorem d_L_law_875 : decode code 875 = .ok (.invokestatic 105, 3) := by decide +kernel
theorem d_L_law_878 : decode code 878 = .ok (.istore 5, 2) := by decide +kernel
theorem d_L_law_880 : decode code 880 = .ok (.aload_n 2, 1) := by decide +kernel
theorem d_L_law_881 : decode code 881 = .ok (.aload_n 0, 1) := by decide +kernel
theorem d_L_law_882 : decode code 882 = .ok (.iload 4, 2) := by decide +kernel
theorem d_L_law_884 : decode code 884 = .ok (.iconst 1, 1) := by decide +kernel
theorem d_L_law_885 : decode code 885 = .ok (.iadd, 1) := by decide +kernel
theorem d_L_law_886 : decode code 886 = .ok (.iaload, 1) := by decide +kernel
theorem d_L_law_887 : decode code 887 = .ok (.aload_n 0, 1) := by decide +kernel
theorem d_L_law_888 : decode code 888 = .ok (.iload 4, 2) := by decide +kernel
theorem d_L_law_890 : decode code 890 = .ok (.iconst 2, 1) := by decide +kernel
theorem d_L_law_891 : decode code 891 = .ok (.iadd, 1) := by decide +kernel
theorem d_L_law_892 : decode code 892 = .ok (.iaload, 1) := by decide +kernel
theorem d_L_law_893 : decode code 893 = .ok (.aload_n 0, 1) := by decide +kernel
theorem d_L_law_894 : decode code 894 = .ok (.iload 4, 2) := by decide +kernel
theorem d_L_law_896 : decode code 896 = .ok (.iconst 3, 1) := by decide +kernel
theorem d_L_law_897 : decode code 897 = .ok (.iadd, 1) := by decide +kernel
theorem d_L_law_898 : decode code 898 = .ok (.iaload, 1) := by decide +kernel
theorem d_L_law_899 : decode code 899 = .ok (.aload_n 0, 1) := by decide +kernel
theorem d_L_law_900 : decode code 900 = .ok (.iload 4, 2) := by decide +kernel
theorem d_L_law_902 : decode code 902 = .ok (.iconst 4, 1) := by decide +kernel
theorem d_L_law_903 : decode code 903 = .ok (.iadd, 1) := by decide +kernel
theorem d_L_law_904 : decode code 904 = .ok (.iaload, 1) := by decide +kernel
theorem d_L_law_905 : decode code 905 = .ok (.invokevirtual 108, 3) := by decide +kernel
theorem d_L_law_908 : decode code 908 = .ok (.istore 6, 2) := by decide +kernel
theorem d_L_law_910 : decode code 910 = .ok (.aload_n 2, 1) := by decide +kernel
theorem d_L_law_911 : decode code 911 = .ok (.invokevirtual 74, 3) := by decide +kernel
theorem d_L_law_914 : decode code 914 = .ok (.iload 5, 2) := by decide +kernel
theorem d_L_law_916 : decode code 916 = .ok (.if_icmp .eq 5, 3) := by decide +kernel
theorem d_L_law_919 : decode code 919 = .ok (.iconst 0, 1) := by decide +kernel
theorem d_L_law_920 : decode code 920 = .ok (.ireturn, 1) := by decide +kernel
theorem d_L_law_921 : decode code 921 = .ok (.iload 5, 2) := by decide +kernel
theorem d_L_law_923 : decode code 923 = .ok (.ifCond .ne 15, 3) := by decide +kernel
theorem d_L_law_926 : decode code 926 = .ok (.aload_n 3, 1) := by decide +kernel
theorem d_L_law_927 : decode code 927 = .ok (.iconst 0, 1) := by decide +kernel
theorem d_L_law_928 : decode code 928 = .ok (.laload, 1) := by decide +kernel
theorem d_L_law_929 : decode code 929 = .ok (.iload 6, 2) := by decide +kernel
theorem d_L_law_931 : decode code 931 = .ok (.i2l, 1) := by decide +kernel
theorem d_L_law_932 : decode code 932 = .ok (.lcmp, 1) := by decide +kernel
theorem d_L_law_933 : decode code 933 = .ok (.ifCond .eq 5, 3) := by decide +kernel
theorem d_L_law_936 : decode code 936 = .ok (.iconst 0, 1) := by decide +kernel
theorem d_L_law_937 : decode code 937 = .ok (.ireturn, 1) := by decide +kernel
theorem d_L_law_938 : decode code 938 = .ok (.goto 245, 3) := by decide +kernel
theorem d_L_law_941 : decode code 941 = .ok (.aload_n 1, 1) := by decide +kernel
theorem d_L_law_942 : decode code 942 = .ok (.aload_n 0, 1) := by decide +kernel
theorem d_L_law_943 : decode code 943 = .ok (.iload 4, 2) := by decide +kernel
theorem d_L_law_945 : decode code 945 = .ok (.iconst 1, 1) := by decide +kernel
theorem d_L_law_946 : decode code 946 = .ok (.iadd, 1) := by decide +kernel
theorem d_L_law_947 : decode code 947 = .ok (.iaload, 1) := by decide +kernel
theorem d_L_law_948 : decode code 948 = .ok (.aload_n 3, 1) := by decide +kernel
theorem d_L_law_949 : decode code 949 = .ok (.invokestatic 109, 3) := by decide +kernel
theorem d_L_law_952 : decode code 952 = .ok (.istore 5, 2) := by decide +kernel
theorem d_L_law_954 : decode code 954 = .ok (.aload_n 2, 1) := by decide +kernel
theorem d_L_law_955 : decode code 955 = .ok (.aload_n 0, 1) := by decide +kernel
theorem d_L_law_956 : decode code 956 = .ok (.iload 4, 2) := by decide +kernel
theorem d_L_law_958 : decode code 958 = .ok (.iconst 1, 1) := by decide +kernel
theorem d_L_law_959 : decode code 959 = .ok (.iadd, 1) := by decide +kernel
theorem d_L_law_960 : decode code 960 = .ok (.iaload, 1) := by decide +kernel
theorem d_L_law_961 : decode code 961 = .ok (.invokevirtual 112, 3) := by decide +kernel
theorem d_L_law_964 : decode code 964 = .ok (.istore 6, 2) := by decide +kernel
theorem d_L_law_966 : decode code 966 = .ok (.aload_n 2, 1) := by decide +kernel
theorem d_L_law_967 : decode code 967 = .ok (.invokevirtual 74, 3) := by decide +kernel
theorem d_L_law_970 : decode code 970 = .ok (.iload 5, 2) := by decide +kernel
theorem d_L_law_972 : decode code 972 = .ok (.if_icmp .eq 5, 3) := by decide +kernel
theorem d_L_law_975 : decode code 975 = .ok (.iconst 0, 1) := by decide +kernel
theorem d_L_law_976 : decode code 976 = .ok (.ireturn, 1) := by decide +kernel
theorem d_L_law_977 : decode code 977 = .ok (.iload 5, 2) := by decide +kernel
theorem d_L_law_979 : decode code 979 = .ok (.ifCond .ne 15, 3) := by decide +kernel
theorem d_L_law_982 : decode code 982 = .ok (.aload_n 3, 1) := by decide +kernel
theorem d_L_law_983 : decode code 983 = .ok (.iconst 0, 1) := by decide +kernel
theorem d_L_law_984 : decode code 984 = .ok (.laload, 1) := by decide +kernel
theorem d_L_law_985 : decode code 985 = .ok (.iload 6, 2) := by decide +kernel
theorem d_L_law_987 : decode code 987 = .ok (.i2l, 1) := by decide +kernel
theorem d_L_law_988 : decode code 988 = .ok (.lcmp, 1) := by decide +kernel
theorem d_L_law_989 : decode code 989 = .ok (.ifCond .eq 5, 3) := by decide +kernel
theorem d_L_law_992 : decode code 992 = .ok (.iconst 0, 1) := by decide +kernel
theorem d_L_law_993 : decode code 993 = .ok (.ireturn, 1) := by decide +kernel
theorem d_L_law_994 : decode code 994 = .ok (.goto 189, 3) := by decide +kernel
theorem d_L_law_997 : decode code 997 = .ok (.aload_n 1, 1) := by decide +kernel
theorem d_L_law_998 : decode code 998 = .ok (.aload_n 0, 1) := by decide +kernel
theorem d_L_law_999 : decode code 999 = .ok (.iload 4, 2) := by decide +kernel
theorem d_L_law_1001 : decode code 1001 = .ok (.iconst 1, 1) := by decide +kernel
theorem d_L_law_1002 : decode code 1002 = .ok (.iadd, 1) := by decide +kernel
theorem d_L_law_1003 : decode code 1003 = .ok (.iaload, 1) := by decide +kernel
theorem d_L_law_1004 : decode code 1004 = .ok (.aload_n 0, 1) := by decide +kernel
theorem d_L_law_1005 : decode code 1005 = .ok (.iload 4, 2) := by decide +kernel
theorem d_L_law_1007 : decode code 1007 = .ok (.iconst 2, 1) := by decide +kernel
theorem d_L_law_1008 : decode code 1008 = .ok (.iadd, 1) := by decide +kernel
theorem d_L_law_1009 : decode code 1009 = .ok (.iaload, 1) := by decide +kernel
theorem d_L_law_1010 : decode code 1010 = .ok (.invokevirtual 113, 3) := by decide +kernel
theorem d_L_law_1013 : decode code 1013 = .ok (.aload_n 2, 1) := by decide +kernel
theorem d_L_law_1014 : decode code 1014 = .ok (.aload_n 0, 1) := by decide +kernel
theorem d_L_law_1015 : decode code 1015 = .ok (.iload 4, 2) := by decide +kernel
theorem d_L_law_1017 : decode code 1017 = .ok (.iconst 1, 1) := by decide +kernel
theorem d_L_law_1018 : decode code 1018 = .ok (.iadd, 1) := by decide +kernel
theorem d_L_law_1019 : decode code 1019 = .ok (.iaload, 1) := by decide +kernel
theorem d_L_law_1020 : decode code 1020 = .ok (.aload_n 0, 1) := by decide +kernel
theorem d_L_law_1021 : decode code 1021 = .ok (.iload 4, 2) := by decide +kernel
theorem d_L_law_1023 : decode code 1023 = .ok (.iconst 2, 1) := by decide +kernel
theorem d_L_law_1024 : decode code 1024 = .ok (.iadd, 1) := by decide +kernel
theorem d_L_law_1025 : decode code 1025 = .ok (.iaload, 1) := by decide +kernel
theorem d_L_law_1026 : decode code 1026 = .ok (.invokevirtual 117, 3) := by decide +kernel
theorem d_L_law_1029 : decode code 1029 = .ok (.if_icmp .eq 154, 3) := by decide +kernel
theorem d_L_law_1032 : decode code 1032 = .ok (.iconst 0, 1) := by decide +kernel
theorem d_L_law_1033 : decode code 1033 = .ok (.ireturn, 1) := by decide +kernel
theorem d_L_law_1034 : decode code 1034 = .ok (.aload_n 1, 1) := by decide +kernel
theorem d_L_law_1035 : decode code 1035 = .ok (.aload_n 0, 1) := by decide +kernel
theorem d_L_law_1036 : decode code 1036 = .ok (.iload 4, 2) := by decide +kernel
theorem d_L_law_1038 : decode code 1038 = .ok (.iconst 1, 1) := by decide +kernel
theorem d_L_law_1039 : decode code 1039 = .ok (.iadd, 1) := by decide +kernel
theorem d_L_law_1040 : decode code 1040 = .ok (.iaload, 1) := by decide +kernel
theorem d_L_law_1041 : decode code 1041 = .ok (.aload_n 3, 1) := by decide +kernel
theorem d_L_law_1042 : decode code 1042 = .ok (.invokestatic 118, 3) := by decide +kernel
theorem d_L_law_1045 : decode code 1045 = .ok (.istore 5, 2) := by decide +kernel
theorem d_L_law_1047 : decode code 1047 = .ok (.aload_n 2, 1) := by decide +kernel
theorem d_L_law_1048 : decode code 1048 = .ok (.aload_n 0, 1) := by decide +kernel
theorem d_L_law_1049 : decode code 1049 = .ok (.iload 4, 2) := by decide +kernel
theorem d_L_law_1051 : decode code 1051 = .ok (.iconst 1, 1) := by decide +kernel
theorem d_L_law_1052 : decode code 1052 = .ok (.iadd, 1) := by decide +kernel
theorem d_L_law_1053 : decode code 1053 = .ok (.iaload, 1) := by decide +kernel
theorem d_L_law_1054 : decode code 1054 = .ok (.invokevirtual 120, 3) := by decide +kernel
theorem d_L_law_1057 : decode code 1057 = .ok (.istore 6, 2) := by decide +kernel
theorem d_L_law_1059 : decode code 1059 = .ok (.aload_n 2, 1) := by decide +kernel
theorem d_L_law_1060 : decode code 1060 = .ok (.invokevirtual 74, 3) := by decide +kernel
theorem d_L_law_1063 : decode code 1063 = .ok (.iload 5, 2) := by decide +kernel
theorem d_L_law_1065 : decode code 1065 = .ok (.if_icmp .eq 5, 3) := by decide +kernel
theorem d_L_law_1068 : decode code 1068 = .ok (.iconst 0, 1) := by decide +kernel
theorem d_L_law_1069 : decode code 1069 = .ok (.ireturn, 1) := by decide +kernel
theorem d_L_law_1070 : decode code 1070 = .ok (.iload 5, 2) := by decide +kernel
theorem d_L_law_1072 : decode code 1072 = .ok (.ifCond .ne 15, 3) := by decide +kernel
theorem d_L_law_1075 : decode code 1075 = .ok (.aload_n 3, 1) := by decide +kernel
theorem d_L_law_1076 : decode code 1076 = .ok (.iconst 0, 1) := by decide +kernel
theorem d_L_law_1077 : decode code 1077 = .ok (.laload, 1) := by decide +kernel
theorem d_L_law_1078 : decode code 1078 = .ok (.iload 6, 2) := by decide +kernel
theorem d_L_law_1080 : decode code 1080 = .ok (.i2l, 1) := by decide +kernel
theorem d_L_law_1081 : decode code 1081 = .ok (.lcmp, 1) := by decide +kernel
theorem d_L_law_1082 : decode code 1082 = .ok (.ifCond .eq 5, 3) := by decide +kernel
theorem d_L_law_1085 : decode code 1085 = .ok (.iconst 0, 1) := by decide +kernel
theorem d_L_law_1086 : decode code 1086 = .ok (.ireturn, 1) := by decide +kernel
theorem d_L_law_1087 : decode code 1087 = .ok (.goto 96, 3) := by decide +kernel
theorem d_L_law_1090 : decode code 1090 = .ok (.aload_n 1, 1) := by decide +kernel
theorem d_L_law_1091 : decode code 1091 = .ok (.aload_n 0, 1) := by decide +kernel
theorem d_L_law_1092 : decode code 1092 = .ok (.iload 4, 2) := by decide +kernel
theorem d_L_law_1094 : decode code 1094 = .ok (.iconst 1, 1) := by decide +kernel
theorem d_L_law_1095 : decode code 1095 = .ok (.iadd, 1) := by decide +kernel
theorem d_L_law_1096 : decode code 1096 = .ok (.iaload, 1) := by decide +kernel
theorem d_L_law_1097 : decode code 1097 = .ok (.aload_n 0, 1) := by decide +kernel
theorem d_L_law_1098 : decode code 1098 = .ok (.iload 4, 2) := by decide +kernel
theorem d_L_law_1100 : decode code 1100 = .ok (.iconst 2, 1) := by decide +kernel
theorem d_L_law_1101 : decode code 1101 = .ok (.iadd, 1) := by decide +kernel
theorem d_L_law_1102 : decode code 1102 = .ok (.iaload, 1) := by decide +kernel
theorem d_L_law_1103 : decode code 1103 = .ok (.aload_n 3, 1) := by decide +kernel
theorem d_L_law_1104 : decode code 1104 = .ok (.invokestatic 121, 3) := by decide +kernel
theorem d_L_law_1107 : decode code 1107 = .ok (.istore 5, 2) := by decide +kernel
theorem d_L_law_1109 : decode code 1109 = .ok (.aload_n 2, 1) := by decide +kernel
theorem d_L_law_1110 : decode code 1110 = .ok (.aload_n 0, 1) := by decide +kernel
theorem d_L_law_1111 : decode code 1111 = .ok (.iload 4, 2) := by decide +kernel
theorem d_L_law_1113 : decode code 1113 = .ok (.iconst 1, 1) := by decide +kernel
theorem d_L_law_1114 : decode code 1114 = .ok (.iadd, 1) := by decide +kernel
theorem d_L_law_1115 : decode code 1115 = .ok (.iaload, 1) := by decide +kernel
theorem d_L_law_1116 : decode code 1116 = .ok (.aload_n 0, 1) := by decide +kernel
theorem d_L_law_1117 : decode code 1117 = .ok (.iload 4, 2) := by decide +kernel
theorem d_L_law_1119 : decode code 1119 = .ok (.iconst 2, 1) := by decide +kernel
theorem d_L_law_1120 : decode code 1120 = .ok (.iadd, 1) := by decide +kernel
theorem d_L_law_1121 : decode code 1121 = .ok (.iaload, 1) := by decide +kernel
theorem d_L_law_1122 : decode code 1122 = .ok (.invokevirtual 123, 3) := by decide +kernel
theorem d_L_law_1125 : decode code 1125 = .ok (.istore 6, 2) := by decide +kernel
theorem d_L_law_1127 : decode code 1127 = .ok (.aload_n 2, 1) := by decide +kernel
theorem d_L_law_1128 : decode code 1128 = .ok (.invokevirtual 74, 3) := by decide +kernel
theorem d_L_law_1131 : decode code 1131 = .ok (.iload 5, 2) := by decide +kernel
theorem d_L_law_1133 : decode code 1133 = .ok (.if_icmp .eq 5, 3) := by decide +kernel
theorem d_L_law_1136 : decode code 1136 = .ok (.iconst 0, 1) := by decide +kernel
theorem d_L_law_1137 : decode code 1137 = .ok (.ireturn, 1) := by decide +kernel
theorem d_L_law_1138 : decode code 1138 = .ok (.iload 5, 2) := by decide +kernel
theorem d_L_law_1140 : decode code 1140 = .ok (.ifCond .ne 15, 3) := by decide +kernel
theorem d_L_law_1143 : decode code 1143 = .ok (.aload_n 3, 1) := by decide +kernel
theorem d_L_law_1144 : decode code 1144 = .ok (.iconst 0, 1) := by decide +kernel
theorem d_L_law_1145 : decode code 1145 = .ok (.laload, 1) := by decide +kernel
theorem d_L_law_1146 : decode code 1146 = .ok (.iload 6, 2) := by decide +kernel
theorem d_L_law_1148 : decode code 1148 = .ok (.i2l, 1) := by decide +kernel
theorem d_L_law_1149 : decode code 1149 = .ok (.lcmp, 1) := by decide +kernel
theorem d_L_law_1150 : decode code 1150 = .ok (.ifCond .eq 5, 3) := by decide +kernel
theorem d_L_law_1153 : decode code 1153 = .ok (.iconst 0, 1) := by decide +kernel
theorem d_L_law_1154 : decode code 1154 = .ok (.ireturn, 1) := by decide +kernel
theorem d_L_law_1155 : decode code 1155 = .ok (.goto 28, 3) := by decide +kernel
theorem d_L_law_1158 : decode code 1158 = .ok (.aload_n 1, 1) := by decide +kernel
theorem d_L_law_1159 : decode code 1159 = .ok (.aload_n 0, 1) := by decide +kernel
theorem d_L_law_1160 : decode code 1160 = .ok (.iload 4, 2) := by decide +kernel
theorem d_L_law_1162 : decode code 1162 = .ok (.iconst 1, 1) := by decide +kernel
theorem d_L_law_1163 : decode code 1163 = .ok (.iadd, 1) := by decide +kernel
theorem d_L_law_1164 : decode code 1164 = .ok (.iaload, 1) := by decide +kernel
theorem d_L_law_1165 : decode code 1165 = .ok (.invokevirtual 124, 3) := by decide +kernel
theorem d_L_law_1168 : decode code 1168 = .ok (.aload_n 2, 1) := by decide +kernel
theorem d_L_law_1169 : decode code 1169 = .ok (.aload_n 0, 1) := by decide +kernel
theorem d_L_law_1170 : decode code 1170 = .ok (.iload 4, 2) := by decide +kernel
theorem d_L_law_1172 : decode code 1172 = .ok (.iconst 1, 1) := by decide +kernel
theorem d_L_law_1173 : decode code 1173 = .ok (.iadd, 1) := by decide +kernel
theorem d_L_law_1174 : decode code 1174 = .ok (.iaload, 1) := by decide +kernel
theorem d_L_law_1175 : decode code 1175 = .ok (.invokevirtual 127, 3) := by decide +kernel
theorem d_L_law_1178 : decode code 1178 = .ok (.if_icmp .eq 5, 3) := by decide +kernel
theorem d_L_law_1181 : decode code 1181 = .ok (.iconst 0, 1) := by decide +kernel
theorem d_L_law_1182 : decode code 1182 = .ok (.ireturn, 1) := by decide +kernel
theorem d_L_law_1183 : decode code 1183 = .ok (.iinc 4 7, 3) := by decide +kernel
theorem d_L_law_1186 : decode code 1186 = .ok (.goto (-1163), 3) := by decide +kernel
theorem d_L_law_1189 : decode code 1189 = .ok (.iconst 1, 1) := by decide +kernel
theorem d_L_law_1190 : decode code 1190 = .ok (.ireturn, 1) := by decide +kernel
