/-! The law: its rows 1 (written by wip/whole/genlaw.py) -/
section
theorem d417_484 : decode code 484 = .ok (.aload_n 2, 1) := by decide +kernel
theorem d417_485 : decode code 485 = .ok (.aload_n 0, 1) := by decide +kernel
theorem d417_486 : decode code 486 = .ok (.iload 4, 2) := by decide +kernel
theorem d417_488 : decode code 488 = .ok (.iconst 1, 1) := by decide +kernel
theorem d417_489 : decode code 489 = .ok (.iadd, 1) := by decide +kernel
theorem d417_490 : decode code 490 = .ok (.iaload, 1) := by decide +kernel
theorem d417_491 : decode code 491 = .ok (.invokevirtual 171, 3) := by decide +kernel
theorem d417_494 : decode code 494 = .ok (.istore 6, 2) := by decide +kernel
theorem d417_496 : decode code 496 = .ok (.aload_n 2, 1) := by decide +kernel
theorem d417_497 : decode code 497 = .ok (.invokevirtual 147, 3) := by decide +kernel
theorem d417_500 : decode code 500 = .ok (.iload 5, 2) := by decide +kernel
theorem d417_502 : decode code 502 = .ok (.if_icmp .eq 5, 3) := by decide +kernel
theorem d417_505 : decode code 505 = .ok (.iconst 0, 1) := by decide +kernel
theorem d417_506 : decode code 506 = .ok (.ireturn, 1) := by decide +kernel
theorem d417_507 : decode code 507 = .ok (.iload 5, 2) := by decide +kernel
theorem d417_509 : decode code 509 = .ok (.ifCond .ne 15, 3) := by decide +kernel
theorem d417_512 : decode code 512 = .ok (.aload_n 3, 1) := by decide +kernel
theorem d417_513 : decode code 513 = .ok (.iconst 0, 1) := by decide +kernel
theorem d417_514 : decode code 514 = .ok (.laload, 1) := by decide +kernel
theorem d417_515 : decode code 515 = .ok (.iload 6, 2) := by decide +kernel
theorem d417_517 : decode code 517 = .ok (.i2l, 1) := by decide +kernel
theorem d417_518 : decode code 518 = .ok (.lcmp, 1) := by decide +kernel
theorem d417_519 : decode code 519 = .ok (.ifCond .eq 5, 3) := by decide +kernel
theorem d417_522 : decode code 522 = .ok (.iconst 0, 1) := by decide +kernel
theorem d417_523 : decode code 523 = .ok (.ireturn, 1) := by decide +kernel
theorem d417_524 : decode code 524 = .ok (.goto 2259, 3) := by decide +kernel
theorem d417_527 : decode code 527 = .ok (.aload_n 1, 1) := by decide +kernel
theorem d417_528 : decode code 528 = .ok (.aload_n 0, 1) := by decide +kernel
theorem d417_529 : decode code 529 = .ok (.iload 4, 2) := by decide +kernel
theorem d417_531 : decode code 531 = .ok (.iconst 1, 1) := by decide +kernel
theorem d417_532 : decode code 532 = .ok (.iadd, 1) := by decide +kernel
theorem d417_533 : decode code 533 = .ok (.iaload, 1) := by decide +kernel
theorem d417_534 : decode code 534 = .ok (.aload_n 0, 1) := by decide +kernel
theorem d417_535 : decode code 535 = .ok (.iload 4, 2) := by decide +kernel
theorem d417_537 : decode code 537 = .ok (.iconst 2, 1) := by decide +kernel
theorem d417_538 : decode code 538 = .ok (.iadd, 1) := by decide +kernel
theorem d417_539 : decode code 539 = .ok (.iaload, 1) := by decide +kernel
theorem d417_540 : decode code 540 = .ok (.aload_n 0, 1) := by decide +kernel
theorem d417_541 : decode code 541 = .ok (.iload 4, 2) := by decide +kernel
theorem d417_543 : decode code 543 = .ok (.iconst 3, 1) := by decide +kernel
theorem d417_544 : decode code 544 = .ok (.iadd, 1) := by decide +kernel
theorem d417_545 : decode code 545 = .ok (.iaload, 1) := by decide +kernel
theorem d417_546 : decode code 546 = .ok (.aload_n 3, 1) := by decide +kernel
theorem d417_547 : decode code 547 = .ok (.invokestatic 172, 3) := by decide +kernel
theorem d417_550 : decode code 550 = .ok (.istore 5, 2) := by decide +kernel
theorem d417_552 : decode code 552 = .ok (.aload_n 2, 1) := by decide +kernel
theorem d417_553 : decode code 553 = .ok (.aload_n 0, 1) := by decide +kernel
theorem d417_554 : decode code 554 = .ok (.iload 4, 2) := by decide +kernel
theorem d417_556 : decode code 556 = .ok (.iconst 1, 1) := by decide +kernel
theorem d417_557 : decode code 557 = .ok (.iadd, 1) := by decide +kernel
theorem d417_558 : decode code 558 = .ok (.iaload, 1) := by decide +kernel
theorem d417_559 : decode code 559 = .ok (.aload_n 0, 1) := by decide +kernel
theorem d417_560 : decode code 560 = .ok (.iload 4, 2) := by decide +kernel
theorem d417_562 : decode code 562 = .ok (.iconst 2, 1) := by decide +kernel
theorem d417_563 : decode code 563 = .ok (.iadd, 1) := by decide +kernel
theorem d417_564 : decode code 564 = .ok (.iaload, 1) := by decide +kernel
theorem d417_565 : decode code 565 = .ok (.aload_n 0, 1) := by decide +kernel
theorem d417_566 : decode code 566 = .ok (.iload 4, 2) := by decide +kernel
theorem d417_568 : decode code 568 = .ok (.iconst 3, 1) := by decide +kernel
theorem d417_569 : decode code 569 = .ok (.iadd, 1) := by decide +kernel
theorem d417_570 : decode code 570 = .ok (.iaload, 1) := by decide +kernel
theorem d417_571 : decode code 571 = .ok (.invokevirtual 175, 3) := by decide +kernel
theorem d417_574 : decode code 574 = .ok (.istore 6, 2) := by decide +kernel
theorem d417_576 : decode code 576 = .ok (.aload_n 2, 1) := by decide +kernel
theorem d417_577 : decode code 577 = .ok (.invokevirtual 147, 3) := by decide +kernel
theorem d417_580 : decode code 580 = .ok (.iload 5, 2) := by decide +kernel
theorem d417_582 : decode code 582 = .ok (.if_icmp .eq 5, 3) := by decide +kernel
theorem d417_585 : decode code 585 = .ok (.iconst 0, 1) := by decide +kernel
theorem d417_586 : decode code 586 = .ok (.ireturn, 1) := by decide +kernel
theorem d417_587 : decode code 587 = .ok (.iload 5, 2) := by decide +kernel
theorem d417_589 : decode code 589 = .ok (.ifCond .ne 15, 3) := by decide +kernel
theorem d417_592 : decode code 592 = .ok (.aload_n 3, 1) := by decide +kernel
theorem d417_593 : decode code 593 = .ok (.iconst 0, 1) := by decide +kernel
theorem d417_594 : decode code 594 = .ok (.laload, 1) := by decide +kernel
theorem d417_595 : decode code 595 = .ok (.iload 6, 2) := by decide +kernel
theorem d417_597 : decode code 597 = .ok (.i2l, 1) := by decide +kernel
theorem d417_598 : decode code 598 = .ok (.lcmp, 1) := by decide +kernel
theorem d417_599 : decode code 599 = .ok (.ifCond .eq 5, 3) := by decide +kernel
theorem d417_602 : decode code 602 = .ok (.iconst 0, 1) := by decide +kernel
theorem d417_603 : decode code 603 = .ok (.ireturn, 1) := by decide +kernel
theorem d417_604 : decode code 604 = .ok (.goto 2179, 3) := by decide +kernel
theorem d417_607 : decode code 607 = .ok (.aload_n 1, 1) := by decide +kernel
theorem d417_608 : decode code 608 = .ok (.aload_n 0, 1) := by decide +kernel
theorem d417_609 : decode code 609 = .ok (.iload 4, 2) := by decide +kernel
theorem d417_611 : decode code 611 = .ok (.iconst 1, 1) := by decide +kernel
theorem d417_612 : decode code 612 = .ok (.iadd, 1) := by decide +kernel
theorem d417_613 : decode code 613 = .ok (.iaload, 1) := by decide +kernel
theorem d417_614 : decode code 614 = .ok (.aload_n 0, 1) := by decide +kernel
theorem d417_615 : decode code 615 = .ok (.iload 4, 2) := by decide +kernel
theorem d417_617 : decode code 617 = .ok (.iconst 2, 1) := by decide +kernel
theorem d417_618 : decode code 618 = .ok (.iadd, 1) := by decide +kernel
theorem d417_619 : decode code 619 = .ok (.iaload, 1) := by decide +kernel
theorem d417_620 : decode code 620 = .ok (.aload_n 3, 1) := by decide +kernel
theorem d417_621 : decode code 621 = .ok (.invokestatic 176, 3) := by decide +kernel
theorem d417_624 : decode code 624 = .ok (.istore 5, 2) := by decide +kernel
theorem d417_626 : decode code 626 = .ok (.aload_n 2, 1) := by decide +kernel
theorem d417_627 : decode code 627 = .ok (.aload_n 0, 1) := by decide +kernel
theorem d417_628 : decode code 628 = .ok (.iload 4, 2) := by decide +kernel
theorem d417_630 : decode code 630 = .ok (.iconst 1, 1) := by decide +kernel
theorem d417_631 : decode code 631 = .ok (.iadd, 1) := by decide +kernel
theorem d417_632 : decode code 632 = .ok (.iaload, 1) := by decide +kernel
theorem d417_633 : decode code 633 = .ok (.aload_n 0, 1) := by decide +kernel
theorem d417_634 : decode code 634 = .ok (.iload 4, 2) := by decide +kernel
theorem d417_636 : decode code 636 = .ok (.iconst 2, 1) := by decide +kernel
theorem d417_637 : decode code 637 = .ok (.iadd, 1) := by decide +kernel
theorem d417_638 : decode code 638 = .ok (.iaload, 1) := by decide +kernel
theorem d417_639 : decode code 639 = .ok (.invokevirtual 178, 3) := by decide +kernel
theorem d417_642 : decode code 642 = .ok (.istore 6, 2) := by decide +kernel
theorem d417_644 : decode code 644 = .ok (.aload_n 2, 1) := by decide +kernel
theorem d417_645 : decode code 645 = .ok (.invokevirtual 147, 3) := by decide +kernel
theorem d417_648 : decode code 648 = .ok (.iload 5, 2) := by decide +kernel
theorem d417_650 : decode code 650 = .ok (.if_icmp .eq 5, 3) := by decide +kernel
theorem d417_653 : decode code 653 = .ok (.iconst 0, 1) := by decide +kernel
theorem d417_654 : decode code 654 = .ok (.ireturn, 1) := by decide +kernel
theorem d417_655 : decode code 655 = .ok (.iload 5, 2) := by decide +kernel
theorem d417_657 : decode code 657 = .ok (.ifCond .ne 15, 3) := by decide +kernel
theorem d417_660 : decode code 660 = .ok (.aload_n 3, 1) := by decide +kernel
theorem d417_661 : decode code 661 = .ok (.iconst 0, 1) := by decide +kernel
theorem d417_662 : decode code 662 = .ok (.laload, 1) := by decide +kernel
theorem d417_663 : decode code 663 = .ok (.iload 6, 2) := by decide +kernel
theorem d417_665 : decode code 665 = .ok (.i2l, 1) := by decide +kernel
theorem d417_666 : decode code 666 = .ok (.lcmp, 1) := by decide +kernel
theorem d417_667 : decode code 667 = .ok (.ifCond .eq 5, 3) := by decide +kernel
theorem d417_670 : decode code 670 = .ok (.iconst 0, 1) := by decide +kernel
theorem d417_671 : decode code 671 = .ok (.ireturn, 1) := by decide +kernel
theorem d417_672 : decode code 672 = .ok (.goto 2111, 3) := by decide +kernel
theorem d417_675 : decode code 675 = .ok (.aload_n 1, 1) := by decide +kernel
theorem d417_676 : decode code 676 = .ok (.aload_n 0, 1) := by decide +kernel
theorem d417_677 : decode code 677 = .ok (.iload 4, 2) := by decide +kernel
theorem d417_679 : decode code 679 = .ok (.iconst 1, 1) := by decide +kernel
theorem d417_680 : decode code 680 = .ok (.iadd, 1) := by decide +kernel
theorem d417_681 : decode code 681 = .ok (.iaload, 1) := by decide +kernel
theorem d417_682 : decode code 682 = .ok (.aload_n 3, 1) := by decide +kernel
theorem d417_683 : decode code 683 = .ok (.invokestatic 179, 3) := by decide +kernel
theorem d417_686 : decode code 686 = .ok (.istore 5, 2) := by decide +kernel
theorem d417_688 : decode code 688 = .ok (.aload_n 2, 1) := by decide +kernel
theorem d417_689 : decode code 689 = .ok (.aload_n 0, 1) := by decide +kernel
theorem d417_690 : decode code 690 = .ok (.iload 4, 2) := by decide +kernel
theorem d417_692 : decode code 692 = .ok (.iconst 1, 1) := by decide +kernel
theorem d417_693 : decode code 693 = .ok (.iadd, 1) := by decide +kernel
theorem d417_694 : decode code 694 = .ok (.iaload, 1) := by decide +kernel
theorem d417_695 : decode code 695 = .ok (.invokevirtual 181, 3) := by decide +kernel
theorem d417_698 : decode code 698 = .ok (.istore 6, 2) := by decide +kernel
theorem d417_700 : decode code 700 = .ok (.aload_n 2, 1) := by decide +kernel
theorem d417_701 : decode code 701 = .ok (.invokevirtual 147, 3) := by decide +kernel
theorem d417_704 : decode code 704 = .ok (.iload 5, 2) := by decide +kernel
theorem d417_706 : decode code 706 = .ok (.if_icmp .eq 5, 3) := by decide +kernel
theorem d417_709 : decode code 709 = .ok (.iconst 0, 1) := by decide +kernel
theorem d417_710 : decode code 710 = .ok (.ireturn, 1) := by decide +kernel
theorem d417_711 : decode code 711 = .ok (.iload 5, 2) := by decide +kernel
theorem d417_713 : decode code 713 = .ok (.ifCond .ne 15, 3) := by decide +kernel
theorem d417_716 : decode code 716 = .ok (.aload_n 3, 1) := by decide +kernel
theorem d417_717 : decode code 717 = .ok (.iconst 0, 1) := by decide +kernel
theorem d417_718 : decode code 718 = .ok (.laload, 1) := by decide +kernel
theorem d417_719 : decode code 719 = .ok (.iload 6, 2) := by decide +kernel
theorem d417_721 : decode code 721 = .ok (.i2l, 1) := by decide +kernel
theorem d417_722 : decode code 722 = .ok (.lcmp, 1) := by decide +kernel
theorem d417_723 : decode code 723 = .ok (.ifCond .eq 5, 3) := by decide +kernel
theorem d417_726 : decode code 726 = .ok (.iconst 0, 1) := by decide +kernel
theorem d417_727 : decode code 727 = .ok (.ireturn, 1) := by decide +kernel
theorem d417_728 : decode code 728 = .ok (.goto 2055, 3) := by decide +kernel
theorem d417_731 : decode code 731 = .ok (.aload_n 1, 1) := by decide +kernel
theorem d417_732 : decode code 732 = .ok (.aload_n 0, 1) := by decide +kernel
theorem d417_733 : decode code 733 = .ok (.iload 4, 2) := by decide +kernel
theorem d417_735 : decode code 735 = .ok (.iconst 1, 1) := by decide +kernel
theorem d417_736 : decode code 736 = .ok (.iadd, 1) := by decide +kernel
theorem d417_737 : decode code 737 = .ok (.iaload, 1) := by decide +kernel
theorem d417_738 : decode code 738 = .ok (.aload_n 3, 1) := by decide +kernel
theorem d417_739 : decode code 739 = .ok (.invokestatic 182, 3) := by decide +kernel
theorem d417_742 : decode code 742 = .ok (.istore 5, 2) := by decide +kernel
end
