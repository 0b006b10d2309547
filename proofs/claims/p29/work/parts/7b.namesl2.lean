theorem dL_goes_474 : decode cL_goes 474 = .ok (.goto 37, 3) := by decide +kernel
theorem dL_goes_477 : decode cL_goes 477 = .ok (.iload 17, 2) := by decide +kernel
theorem dL_goes_479 : decode cL_goes 479 = .ok (.ifCond .ne 12, 3) := by decide +kernel
theorem dL_goes_482 : decode cL_goes 482 = .ok (.dload 36, 2) := by decide +kernel
theorem dL_goes_484 : decode cL_goes 484 = .ok (.iload 35, 2) := by decide +kernel
theorem dL_goes_486 : decode cL_goes 486 = .ok (.i2d, 1) := by decide +kernel
theorem dL_goes_487 : decode cL_goes 487 = .ok (.ddiv, 1) := by decide +kernel
theorem dL_goes_488 : decode cL_goes 488 = .ok (.goto 23, 3) := by decide +kernel
theorem dL_goes_491 : decode cL_goes 491 = .ok (.iload 17, 2) := by decide +kernel
theorem dL_goes_493 : decode cL_goes 493 = .ok (.iconst 1, 1) := by decide +kernel
theorem dL_goes_494 : decode cL_goes 494 = .ok (.if_icmp .ne 11, 3) := by decide +kernel
theorem dL_goes_497 : decode cL_goes 497 = .ok (.dload 36, 2) := by decide +kernel
theorem dL_goes_499 : decode cL_goes 499 = .ok (.dload 38, 2) := by decide +kernel
theorem dL_goes_501 : decode cL_goes 501 = .ok (.ddiv, 1) := by decide +kernel
theorem dL_goes_502 : decode cL_goes 502 = .ok (.goto 9, 3) := by decide +kernel
theorem dL_goes_505 : decode cL_goes 505 = .ok (.iload 35, 2) := by decide +kernel
theorem dL_goes_507 : decode cL_goes 507 = .ok (.i2d, 1) := by decide +kernel
theorem dL_goes_508 : decode cL_goes 508 = .ok (.dload 36, 2) := by decide +kernel
theorem dL_goes_510 : decode cL_goes 510 = .ok (.ddiv, 1) := by decide +kernel
theorem dL_goes_511 : decode cL_goes 511 = .ok (.dstore 44, 2) := by decide +kernel
theorem dL_goes_513 : decode cL_goes 513 = .ok (.iload 35, 2) := by decide +kernel
theorem dL_goes_515 : decode cL_goes 515 = .ok (.ifCond .ne 7, 3) := by decide +kernel
theorem dL_goes_518 : decode cL_goes 518 = .ok (.dconst 0, 1) := by decide +kernel
theorem dL_goes_519 : decode cL_goes 519 = .ok (.goto 37, 3) := by decide +kernel
theorem dL_goes_522 : decode cL_goes 522 = .ok (.iload 17, 2) := by decide +kernel
theorem dL_goes_524 : decode cL_goes 524 = .ok (.ifCond .ne 12, 3) := by decide +kernel
theorem dL_goes_527 : decode cL_goes 527 = .ok (.dload 40, 2) := by decide +kernel
theorem dL_goes_529 : decode cL_goes 529 = .ok (.iload 35, 2) := by decide +kernel
theorem dL_goes_531 : decode cL_goes 531 = .ok (.i2d, 1) := by decide +kernel
theorem dL_goes_532 : decode cL_goes 532 = .ok (.ddiv, 1) := by decide +kernel
theorem dL_goes_533 : decode cL_goes 533 = .ok (.goto 23, 3) := by decide +kernel
theorem dL_goes_536 : decode cL_goes 536 = .ok (.iload 17, 2) := by decide +kernel
theorem dL_goes_538 : decode cL_goes 538 = .ok (.iconst 1, 1) := by decide +kernel
theorem dL_goes_539 : decode cL_goes 539 = .ok (.if_icmp .ne 11, 3) := by decide +kernel
theorem dL_goes_542 : decode cL_goes 542 = .ok (.dload 40, 2) := by decide +kernel
theorem dL_goes_544 : decode cL_goes 544 = .ok (.dload 42, 2) := by decide +kernel
theorem dL_goes_546 : decode cL_goes 546 = .ok (.ddiv, 1) := by decide +kernel
theorem dL_goes_547 : decode cL_goes 547 = .ok (.goto 9, 3) := by decide +kernel
theorem dL_goes_550 : decode cL_goes 550 = .ok (.iload 35, 2) := by decide +kernel
theorem dL_goes_552 : decode cL_goes 552 = .ok (.i2d, 1) := by decide +kernel
theorem dL_goes_553 : decode cL_goes 553 = .ok (.dload 40, 2) := by decide +kernel
theorem dL_goes_555 : decode cL_goes 555 = .ok (.ddiv, 1) := by decide +kernel
theorem dL_goes_556 : decode cL_goes 556 = .ok (.dstore 46, 2) := by decide +kernel
theorem dL_goes_558 : decode cL_goes 558 = .ok (.iload 32, 2) := by decide +kernel
theorem dL_goes_560 : decode cL_goes 560 = .ok (.ifCond .ne 10, 3) := by decide +kernel
theorem dL_goes_563 : decode cL_goes 563 = .ok (.dload 26, 2) := by decide +kernel
theorem dL_goes_565 : decode cL_goes 565 = .ok (.dconst 0, 1) := by decide +kernel
theorem dL_goes_566 : decode cL_goes 566 = .ok (.dcmp .l, 1) := by decide +kernel
theorem dL_goes_567 : decode cL_goes 567 = .ok (.ifCond .ne 8, 3) := by decide +kernel
theorem dL_goes_570 : decode cL_goes 570 = .ok (.dload 20, 2) := by decide +kernel
theorem dL_goes_572 : decode cL_goes 572 = .ok (.goto 20, 3) := by decide +kernel
theorem dL_goes_575 : decode cL_goes 575 = .ok (.dload 44, 2) := by decide +kernel
theorem dL_goes_577 : decode cL_goes 577 = .ok (.dconst 0, 1) := by decide +kernel
theorem dL_goes_578 : decode cL_goes 578 = .ok (.dcmp .l, 1) := by decide +kernel
theorem dL_goes_579 : decode cL_goes 579 = .ok (.ifCond .le 11, 3) := by decide +kernel
theorem dL_goes_582 : decode cL_goes 582 = .ok (.dload 26, 2) := by decide +kernel
theorem dL_goes_584 : decode cL_goes 584 = .ok (.dload 44, 2) := by decide +kernel
theorem dL_goes_586 : decode cL_goes 586 = .ok (.dmul, 1) := by decide +kernel
theorem dL_goes_587 : decode cL_goes 587 = .ok (.goto 5, 3) := by decide +kernel
theorem dL_goes_590 : decode cL_goes 590 = .ok (.dload 26, 2) := by decide +kernel
theorem dL_goes_592 : decode cL_goes 592 = .ok (.dstore 11, 2) := by decide +kernel
theorem dL_goes_594 : decode cL_goes 594 = .ok (.iload 33, 2) := by decide +kernel
theorem dL_goes_596 : decode cL_goes 596 = .ok (.ifCond .ne 10, 3) := by decide +kernel
theorem dL_goes_599 : decode cL_goes 599 = .ok (.dload 28, 2) := by decide +kernel
theorem dL_goes_601 : decode cL_goes 601 = .ok (.dconst 0, 1) := by decide +kernel
theorem dL_goes_602 : decode cL_goes 602 = .ok (.dcmp .l, 1) := by decide +kernel
theorem dL_goes_603 : decode cL_goes 603 = .ok (.ifCond .ne 8, 3) := by decide +kernel
theorem dL_goes_606 : decode cL_goes 606 = .ok (.dload 22, 2) := by decide +kernel
theorem dL_goes_608 : decode cL_goes 608 = .ok (.goto 20, 3) := by decide +kernel
theorem dL_goes_611 : decode cL_goes 611 = .ok (.dload 44, 2) := by decide +kernel
theorem dL_goes_613 : decode cL_goes 613 = .ok (.dconst 0, 1) := by decide +kernel
theorem dL_goes_614 : decode cL_goes 614 = .ok (.dcmp .l, 1) := by decide +kernel
theorem dL_goes_615 : decode cL_goes 615 = .ok (.ifCond .le 11, 3) := by decide +kernel
theorem dL_goes_618 : decode cL_goes 618 = .ok (.dload 28, 2) := by decide +kernel
theorem dL_goes_620 : decode cL_goes 620 = .ok (.dload 44, 2) := by decide +kernel
theorem dL_goes_622 : decode cL_goes 622 = .ok (.dmul, 1) := by decide +kernel
theorem dL_goes_623 : decode cL_goes 623 = .ok (.goto 5, 3) := by decide +kernel
theorem dL_goes_626 : decode cL_goes 626 = .ok (.dload 28, 2) := by decide +kernel
theorem dL_goes_628 : decode cL_goes 628 = .ok (.dstore 13, 2) := by decide +kernel
theorem dL_goes_630 : decode cL_goes 630 = .ok (.iload 34, 2) := by decide +kernel
theorem dL_goes_632 : decode cL_goes 632 = .ok (.ifCond .ne 10, 3) := by decide +kernel
theorem dL_goes_635 : decode cL_goes 635 = .ok (.dload 30, 2) := by decide +kernel
theorem dL_goes_637 : decode cL_goes 637 = .ok (.dconst 0, 1) := by decide +kernel
theorem dL_goes_638 : decode cL_goes 638 = .ok (.dcmp .l, 1) := by decide +kernel
theorem dL_goes_639 : decode cL_goes 639 = .ok (.ifCond .ne 8, 3) := by decide +kernel
theorem dL_goes_642 : decode cL_goes 642 = .ok (.dload 24, 2) := by decide +kernel
theorem dL_goes_644 : decode cL_goes 644 = .ok (.goto 20, 3) := by decide +kernel
theorem dL_goes_647 : decode cL_goes 647 = .ok (.dload 44, 2) := by decide +kernel
theorem dL_goes_649 : decode cL_goes 649 = .ok (.dconst 0, 1) := by decide +kernel
theorem dL_goes_650 : decode cL_goes 650 = .ok (.dcmp .l, 1) := by decide +kernel
theorem dL_goes_651 : decode cL_goes 651 = .ok (.ifCond .le 11, 3) := by decide +kernel
theorem dL_goes_654 : decode cL_goes 654 = .ok (.dload 30, 2) := by decide +kernel
theorem dL_goes_656 : decode cL_goes 656 = .ok (.dload 44, 2) := by decide +kernel
theorem dL_goes_658 : decode cL_goes 658 = .ok (.dmul, 1) := by decide +kernel
theorem dL_goes_659 : decode cL_goes 659 = .ok (.goto 5, 3) := by decide +kernel
theorem dL_goes_662 : decode cL_goes 662 = .ok (.dload 30, 2) := by decide +kernel
theorem dL_goes_664 : decode cL_goes 664 = .ok (.dstore 15, 2) := by decide +kernel
theorem dL_goes_666 : decode cL_goes 666 = .ok (.iload 18, 2) := by decide +kernel
theorem dL_goes_668 : decode cL_goes 668 = .ok (.iload_n 1, 1) := by decide +kernel
theorem dL_goes_669 : decode cL_goes 669 = .ok (.if_icmp .ne 155, 3) := by decide +kernel
theorem dL_goes_672 : decode cL_goes 672 = .ok (.iload_n 2, 1) := by decide +kernel
theorem dL_goes_673 : decode cL_goes 673 = .ok (.iconst 2, 1) := by decide +kernel
theorem dL_goes_674 : decode cL_goes 674 = .ok (.if_icmp .le 150, 3) := by decide +kernel
theorem dL_goes_677 : decode cL_goes 677 = .ok (.dload 20, 2) := by decide +kernel
theorem dL_goes_679 : decode cL_goes 679 = .ok (.dconst 0, 1) := by decide +kernel
theorem dL_goes_680 : decode cL_goes 680 = .ok (.dcmp .l, 1) := by decide +kernel
theorem dL_goes_681 : decode cL_goes 681 = .ok (.ifCond .le 19, 3) := by decide +kernel
theorem dL_goes_684 : decode cL_goes 684 = .ok (.dload 26, 2) := by decide +kernel
theorem dL_goes_686 : decode cL_goes 686 = .ok (.dconst 0, 1) := by decide +kernel
theorem dL_goes_687 : decode cL_goes 687 = .ok (.dcmp .l, 1) := by decide +kernel
theorem dL_goes_688 : decode cL_goes 688 = .ok (.ifCond .le 12, 3) := by decide +kernel
theorem dL_goes_691 : decode cL_goes 691 = .ok (.iload 32, 2) := by decide +kernel
theorem dL_goes_693 : decode cL_goes 693 = .ok (.ifCond .ne 7, 3) := by decide +kernel
theorem dL_goes_696 : decode cL_goes 696 = .ok (.iconst 1, 1) := by decide +kernel
theorem dL_goes_697 : decode cL_goes 697 = .ok (.goto 4, 3) := by decide +kernel
theorem dL_goes_700 : decode cL_goes 700 = .ok (.iconst 0, 1) := by decide +kernel
theorem dL_goes_701 : decode cL_goes 701 = .ok (.dload 22, 2) := by decide +kernel
theorem dL_goes_703 : decode cL_goes 703 = .ok (.dconst 0, 1) := by decide +kernel
theorem dL_goes_704 : decode cL_goes 704 = .ok (.dcmp .l, 1) := by decide +kernel
theorem dL_goes_705 : decode cL_goes 705 = .ok (.ifCond .le 19, 3) := by decide +kernel
theorem dL_goes_708 : decode cL_goes 708 = .ok (.dload 28, 2) := by decide +kernel
theorem dL_goes_710 : decode cL_goes 710 = .ok (.dconst 0, 1) := by decide +kernel
theorem dL_goes_711 : decode cL_goes 711 = .ok (.dcmp .l, 1) := by decide +kernel
theorem dL_goes_712 : decode cL_goes 712 = .ok (.ifCond .le 12, 3) := by decide +kernel
theorem dL_goes_715 : decode cL_goes 715 = .ok (.iload 33, 2) := by decide +kernel
theorem dL_goes_717 : decode cL_goes 717 = .ok (.ifCond .ne 7, 3) := by decide +kernel
theorem dL_goes_720 : decode cL_goes 720 = .ok (.iconst 1, 1) := by decide +kernel
theorem dL_goes_721 : decode cL_goes 721 = .ok (.goto 4, 3) := by decide +kernel
theorem dL_goes_724 : decode cL_goes 724 = .ok (.iconst 0, 1) := by decide +kernel
theorem dL_goes_725 : decode cL_goes 725 = .ok (.iadd, 1) := by decide +kernel
theorem dL_goes_726 : decode cL_goes 726 = .ok (.dload 24, 2) := by decide +kernel
theorem dL_goes_728 : decode cL_goes 728 = .ok (.dconst 0, 1) := by decide +kernel
theorem dL_goes_729 : decode cL_goes 729 = .ok (.dcmp .l, 1) := by decide +kernel
theorem dL_goes_730 : decode cL_goes 730 = .ok (.ifCond .le 19, 3) := by decide +kernel
theorem dL_goes_733 : decode cL_goes 733 = .ok (.dload 30, 2) := by decide +kernel
theorem dL_goes_735 : decode cL_goes 735 = .ok (.dconst 0, 1) := by decide +kernel
theorem dL_goes_736 : decode cL_goes 736 = .ok (.dcmp .l, 1) := by decide +kernel
theorem dL_goes_737 : decode cL_goes 737 = .ok (.ifCond .le 12, 3) := by decide +kernel
theorem dL_goes_740 : decode cL_goes 740 = .ok (.iload 34, 2) := by decide +kernel
theorem dL_goes_742 : decode cL_goes 742 = .ok (.ifCond .ne 7, 3) := by decide +kernel
theorem dL_goes_745 : decode cL_goes 745 = .ok (.iconst 1, 1) := by decide +kernel
theorem dL_goes_746 : decode cL_goes 746 = .ok (.goto 4, 3) := by decide +kernel
theorem dL_goes_749 : decode cL_goes 749 = .ok (.iconst 0, 1) := by decide +kernel
theorem dL_goes_750 : decode cL_goes 750 = .ok (.iadd, 1) := by decide +kernel
theorem dL_goes_751 : decode cL_goes 751 = .ok (.istore 48, 2) := by decide +kernel
theorem dL_goes_753 : decode cL_goes 753 = .ok (.iload_n 2, 1) := by decide +kernel
theorem dL_goes_754 : decode cL_goes 754 = .ok (.iconst 5, 1) := by decide +kernel
theorem dL_goes_755 : decode cL_goes 755 = .ok (.if_icmp .ne 8, 3) := by decide +kernel
theorem dL_goes_758 : decode cL_goes 758 = .ok (.iload 32, 2) := by decide +kernel
theorem dL_goes_760 : decode cL_goes 760 = .ok (.goto 16, 3) := by decide +kernel
theorem dL_goes_763 : decode cL_goes 763 = .ok (.iload_n 2, 1) := by decide +kernel
theorem dL_goes_764 : decode cL_goes 764 = .ok (.bipush 6, 2) := by decide +kernel
theorem dL_goes_766 : decode cL_goes 766 = .ok (.if_icmp .ne 8, 3) := by decide +kernel
theorem dL_goes_769 : decode cL_goes 769 = .ok (.iload 33, 2) := by decide +kernel
theorem dL_goes_771 : decode cL_goes 771 = .ok (.goto 5, 3) := by decide +kernel
theorem dL_goes_774 : decode cL_goes 774 = .ok (.iload 34, 2) := by decide +kernel
theorem dL_goes_776 : decode cL_goes 776 = .ok (.istore 49, 2) := by decide +kernel
theorem dL_goes_778 : decode cL_goes 778 = .ok (.iload_n 2, 1) := by decide +kernel
theorem dL_goes_779 : decode cL_goes 779 = .ok (.iconst 3, 1) := by decide +kernel
theorem dL_goes_780 : decode cL_goes 780 = .ok (.if_icmp .ne 8, 3) := by decide +kernel
theorem dL_goes_783 : decode cL_goes 783 = .ok (.dload 44, 2) := by decide +kernel
theorem dL_goes_785 : decode cL_goes 785 = .ok (.goto 38, 3) := by decide +kernel
theorem dL_goes_788 : decode cL_goes 788 = .ok (.iload_n 2, 1) := by decide +kernel
theorem dL_goes_789 : decode cL_goes 789 = .ok (.iconst 4, 1) := by decide +kernel
theorem dL_goes_790 : decode cL_goes 790 = .ok (.if_icmp .ne 11, 3) := by decide +kernel
theorem dL_goes_793 : decode cL_goes 793 = .ok (.dload 44, 2) := by decide +kernel
theorem dL_goes_795 : decode cL_goes 795 = .ok (.dload 46, 2) := by decide +kernel
theorem dL_goes_797 : decode cL_goes 797 = .ok (.dmul, 1) := by decide +kernel
theorem dL_goes_798 : decode cL_goes 798 = .ok (.goto 25, 3) := by decide +kernel
theorem dL_goes_801 : decode cL_goes 801 = .ok (.iload_n 2, 1) := by decide +kernel
theorem dL_goes_802 : decode cL_goes 802 = .ok (.bipush 8, 2) := by decide +kernel
theorem dL_goes_804 : decode cL_goes 804 = .ok (.if_icmp .ne 9, 3) := by decide +kernel
theorem dL_goes_807 : decode cL_goes 807 = .ok (.iload 48, 2) := by decide +kernel
theorem dL_goes_809 : decode cL_goes 809 = .ok (.i2d, 1) := by decide +kernel
theorem dL_goes_810 : decode cL_goes 810 = .ok (.goto 13, 3) := by decide +kernel
theorem dL_goes_813 : decode cL_goes 813 = .ok (.iload 49, 2) := by decide +kernel
theorem dL_goes_815 : decode cL_goes 815 = .ok (.ifCond .eq 7, 3) := by decide +kernel
theorem dL_goes_818 : decode cL_goes 818 = .ok (.dconst 1, 1) := by decide +kernel
theorem dL_goes_819 : decode cL_goes 819 = .ok (.goto 4, 3) := by decide +kernel
theorem dL_goes_822 : decode cL_goes 822 = .ok (.dconst 0, 1) := by decide +kernel
theorem dL_goes_823 : decode cL_goes 823 = .ok (.dreturn, 1) := by decide +kernel
theorem dL_goes_824 : decode cL_goes 824 = .ok (.iinc 18 1, 3) := by decide +kernel
theorem dL_goes_827 : decode cL_goes 827 = .ok (.goto (-805), 3) := by decide +kernel
theorem dL_goes_830 : decode cL_goes 830 = .ok (.iload_n 2, 1) := by decide +kernel
theorem dL_goes_831 : decode cL_goes 831 = .ok (.ifCond .ne 8, 3) := by decide +kernel
theorem dL_goes_834 : decode cL_goes 834 = .ok (.dload 11, 2) := by decide +kernel
theorem dL_goes_836 : decode cL_goes 836 = .ok (.goto 15, 3) := by decide +kernel
theorem dL_goes_839 : decode cL_goes 839 = .ok (.iload_n 2, 1) := by decide +kernel
theorem dL_goes_840 : decode cL_goes 840 = .ok (.iconst 1, 1) := by decide +kernel
theorem dL_goes_841 : decode cL_goes 841 = .ok (.if_icmp .ne 8, 3) := by decide +kernel
theorem dL_goes_844 : decode cL_goes 844 = .ok (.dload 13, 2) := by decide +kernel
theorem dL_goes_846 : decode cL_goes 846 = .ok (.goto 5, 3) := by decide +kernel
theorem dL_goes_849 : decode cL_goes 849 = .ok (.dload 15, 2) := by decide +kernel
theorem dL_goes_851 : decode cL_goes 851 = .ok (.dreturn, 1) := by decide +kernel
set_option maxRecDepth 20000 in
theorem ggL_group_L_goes : GoodIn wsL_group wsL_goes := goodIn_r _ [4, 5, 6, 3, 7, 8, 9, 10, 11, 12, 13, 14, 15, 16, 17, 18] rfl (by decide +kernel)
set_option maxRecDepth 20000 in
theorem gL_group_L_goes : GoodIn wsL_group (va_wsS RL 59 yL_goes wsL_goes) := goodIn_app (goodIn_of _ (by decide +kernel)) ggL_group_L_goes
theorem dL_group_0 : decode cL_group 0 = .ok (.dconst 0, 1) := by decide +kernel
theorem dL_group_1 : decode cL_group 1 = .ok (.dstore 11, 2) := by decide +kernel
theorem dL_group_3 : decode cL_group 3 = .ok (.iconst 0, 1) := by decide +kernel
theorem dL_group_4 : decode cL_group 4 = .ok (.istore 13, 2) := by decide +kernel
theorem dL_group_6 : decode cL_group 6 = .ok (.iconst 0, 1) := by decide +kernel
theorem dL_group_7 : decode cL_group 7 = .ok (.istore 14, 2) := by decide +kernel
theorem dL_group_9 : decode cL_group 9 = .ok (.iload 14, 2) := by decide +kernel
theorem dL_group_11 : decode cL_group 11 = .ok (.aload 10, 2) := by decide +kernel
theorem dL_group_13 : decode cL_group 13 = .ok (.iconst 0, 1) := by decide +kernel
theorem dL_group_14 : decode cL_group 14 = .ok (.iaload, 1) := by decide +kernel
theorem dL_group_15 : decode cL_group 15 = .ok (.if_icmp .ge 82, 3) := by decide +kernel
theorem dL_group_18 : decode cL_group 18 = .ok (.aload_n 3, 1) := by decide +kernel
theorem dL_group_19 : decode cL_group 19 = .ok (.iconst 3, 1) := by decide +kernel
theorem dL_group_20 : decode cL_group 20 = .ok (.iload 14, 2) := by decide +kernel
theorem dL_group_22 : decode cL_group 22 = .ok (.imul, 1) := by decide +kernel
theorem dL_group_23 : decode cL_group 23 = .ok (.iaload, 1) := by decide +kernel
theorem dL_group_24 : decode cL_group 24 = .ok (.iload_n 0, 1) := by decide +kernel
theorem dL_group_25 : decode cL_group 25 = .ok (.if_icmp .ne 27, 3) := by decide +kernel
theorem dL_group_28 : decode cL_group 28 = .ok (.iload 14, 2) := by decide +kernel
theorem dL_group_30 : decode cL_group 30 = .ok (.iload_n 1, 1) := by decide +kernel
theorem dL_group_31 : decode cL_group 31 = .ok (.iconst 3, 1) := by decide +kernel
theorem dL_group_32 : decode cL_group 32 = .ok (.iload_n 2, 1) := by decide +kernel
theorem dL_group_33 : decode cL_group 33 = .ok (.aload_n 3, 1) := by decide +kernel
theorem dL_group_34 : decode cL_group 34 = .ok (.aload 4, 2) := by decide +kernel
theorem dL_group_36 : decode cL_group 36 = .ok (.aload 5, 2) := by decide +kernel
theorem dL_group_38 : decode cL_group 38 = .ok (.aload 6, 2) := by decide +kernel
theorem dL_group_40 : decode cL_group 40 = .ok (.aload 7, 2) := by decide +kernel
theorem dL_group_42 : decode cL_group 42 = .ok (.aload 8, 2) := by decide +kernel
theorem dL_group_44 : decode cL_group 44 = .ok (.aload 9, 2) := by decide +kernel
theorem dL_group_46 : decode cL_group 46 = .ok (.invokestatic 59, 3) := by decide +kernel
theorem dL_group_49 : decode cL_group 49 = .ok (.goto 4, 3) := by decide +kernel
theorem dL_group_52 : decode cL_group 52 = .ok (.dconst 0, 1) := by decide +kernel
theorem dL_group_53 : decode cL_group 53 = .ok (.dstore 15, 2) := by decide +kernel
theorem dL_group_55 : decode cL_group 55 = .ok (.iload 13, 2) := by decide +kernel
theorem dL_group_57 : decode cL_group 57 = .ok (.dload 15, 2) := by decide +kernel
theorem dL_group_59 : decode cL_group 59 = .ok (.dconst 0, 1) := by decide +kernel
theorem dL_group_60 : decode cL_group 60 = .ok (.dcmp .l, 1) := by decide +kernel
theorem dL_group_61 : decode cL_group 61 = .ok (.ifCond .le 7, 3) := by decide +kernel
theorem dL_group_64 : decode cL_group 64 = .ok (.iconst 1, 1) := by decide +kernel
theorem dL_group_65 : decode cL_group 65 = .ok (.goto 4, 3) := by decide +kernel
theorem dL_group_68 : decode cL_group 68 = .ok (.iconst 0, 1) := by decide +kernel
theorem dL_group_69 : decode cL_group 69 = .ok (.iadd, 1) := by decide +kernel
theorem dL_group_70 : decode cL_group 70 = .ok (.istore 13, 2) := by decide +kernel
theorem dL_group_72 : decode cL_group 72 = .ok (.dload 15, 2) := by decide +kernel
theorem dL_group_74 : decode cL_group 74 = .ok (.dconst 0, 1) := by decide +kernel
theorem dL_group_75 : decode cL_group 75 = .ok (.dcmp .l, 1) := by decide +kernel
theorem dL_group_76 : decode cL_group 76 = .ok (.ifCond .le 11, 3) := by decide +kernel
theorem dL_group_79 : decode cL_group 79 = .ok (.dload 11, 2) := by decide +kernel
theorem dL_group_81 : decode cL_group 81 = .ok (.dload 15, 2) := by decide +kernel
theorem dL_group_83 : decode cL_group 83 = .ok (.dadd, 1) := by decide +kernel
theorem dL_group_84 : decode cL_group 84 = .ok (.goto 5, 3) := by decide +kernel
theorem dL_group_87 : decode cL_group 87 = .ok (.dload 11, 2) := by decide +kernel
theorem dL_group_89 : decode cL_group 89 = .ok (.dstore 11, 2) := by decide +kernel
theorem dL_group_91 : decode cL_group 91 = .ok (.iinc 14 1, 3) := by decide +kernel
theorem dL_group_94 : decode cL_group 94 = .ok (.goto (-85), 3) := by decide +kernel
theorem dL_group_97 : decode cL_group 97 = .ok (.iload 13, 2) := by decide +kernel
theorem dL_group_99 : decode cL_group 99 = .ok (.ifCond .ne 7, 3) := by decide +kernel
theorem dL_group_102 : decode cL_group 102 = .ok (.dconst 1, 1) := by decide +kernel
theorem dL_group_103 : decode cL_group 103 = .ok (.goto 9, 3) := by decide +kernel
theorem dL_group_106 : decode cL_group 106 = .ok (.dload 11, 2) := by decide +kernel
theorem dL_group_108 : decode cL_group 108 = .ok (.iload 13, 2) := by decide +kernel
theorem dL_group_110 : decode cL_group 110 = .ok (.i2d, 1) := by decide +kernel
theorem dL_group_111 : decode cL_group 111 = .ok (.ddiv, 1) := by decide +kernel
theorem dL_group_112 : decode cL_group 112 = .ok (.dreturn, 1) := by decide +kernel
theorem dL_share_0 : decode cL_share 0 = .ok (.bipush 12, 2) := by decide +kernel
theorem dL_share_2 : decode cL_share 2 = .ok (.iload_n 2, 1) := by decide +kernel
theorem dL_share_3 : decode cL_share 3 = .ok (.imul, 1) := by decide +kernel
theorem dL_share_4 : decode cL_share 4 = .ok (.istore 4, 2) := by decide +kernel
theorem dL_share_6 : decode cL_share 6 = .ok (.dconst 0, 1) := by decide +kernel
theorem dL_share_7 : decode cL_share 7 = .ok (.dstore 5, 2) := by decide +kernel
theorem dL_share_9 : decode cL_share 9 = .ok (.iconst 0, 1) := by decide +kernel
theorem dL_share_10 : decode cL_share 10 = .ok (.istore 7, 2) := by decide +kernel
theorem dL_share_12 : decode cL_share 12 = .ok (.lconst 0, 1) := by decide +kernel
theorem dL_share_13 : decode cL_share 13 = .ok (.lstore 8, 2) := by decide +kernel
theorem dL_share_15 : decode cL_share 15 = .ok (.lconst 0, 1) := by decide +kernel
theorem dL_share_16 : decode cL_share 16 = .ok (.lstore 10, 2) := by decide +kernel
theorem dL_share_18 : decode cL_share 18 = .ok (.iconst 0, 1) := by decide +kernel
theorem dL_share_19 : decode cL_share 19 = .ok (.istore 12, 2) := by decide +kernel
theorem dL_share_21 : decode cL_share 21 = .ok (.iload 12, 2) := by decide +kernel
theorem dL_share_23 : decode cL_share 23 = .ok (.iconst 3, 1) := by decide +kernel
theorem dL_share_24 : decode cL_share 24 = .ok (.if_icmp .ge 128, 3) := by decide +kernel
theorem dL_share_27 : decode cL_share 27 = .ok (.aload_n 3, 1) := by decide +kernel
theorem dL_share_28 : decode cL_share 28 = .ok (.iload 4, 2) := by decide +kernel
theorem dL_share_30 : decode cL_share 30 = .ok (.iconst 4, 1) := by decide +kernel
theorem dL_share_31 : decode cL_share 31 = .ok (.iload 12, 2) := by decide +kernel
theorem dL_share_33 : decode cL_share 33 = .ok (.imul, 1) := by decide +kernel
theorem dL_share_34 : decode cL_share 34 = .ok (.iadd, 1) := by decide +kernel
theorem dL_share_35 : decode cL_share 35 = .ok (.iaload, 1) := by decide +kernel
theorem dL_share_36 : decode cL_share 36 = .ok (.i2l, 1) := by decide +kernel
theorem dL_share_37 : decode cL_share 37 = .ok (.aload_n 3, 1) := by decide +kernel
theorem dL_share_38 : decode cL_share 38 = .ok (.iload 4, 2) := by decide +kernel
theorem dL_share_40 : decode cL_share 40 = .ok (.iconst 4, 1) := by decide +kernel
theorem dL_share_41 : decode cL_share 41 = .ok (.iload 12, 2) := by decide +kernel
theorem dL_share_43 : decode cL_share 43 = .ok (.imul, 1) := by decide +kernel
theorem dL_share_44 : decode cL_share 44 = .ok (.iadd, 1) := by decide +kernel
theorem dL_share_45 : decode cL_share 45 = .ok (.iconst 1, 1) := by decide +kernel
theorem dL_share_46 : decode cL_share 46 = .ok (.iadd, 1) := by decide +kernel
theorem dL_share_47 : decode cL_share 47 = .ok (.iaload, 1) := by decide +kernel
theorem dL_share_48 : decode cL_share 48 = .ok (.i2l, 1) := by decide +kernel
theorem dL_share_49 : decode cL_share 49 = .ok (.ladd, 1) := by decide +kernel
theorem dL_share_50 : decode cL_share 50 = .ok (.aload_n 3, 1) := by decide +kernel
theorem dL_share_51 : decode cL_share 51 = .ok (.iload 4, 2) := by decide +kernel
theorem dL_share_53 : decode cL_share 53 = .ok (.iconst 4, 1) := by decide +kernel
theorem dL_share_54 : decode cL_share 54 = .ok (.iload 12, 2) := by decide +kernel
theorem dL_share_56 : decode cL_share 56 = .ok (.imul, 1) := by decide +kernel
theorem dL_share_57 : decode cL_share 57 = .ok (.iadd, 1) := by decide +kernel
theorem dL_share_58 : decode cL_share 58 = .ok (.iconst 2, 1) := by decide +kernel
theorem dL_share_59 : decode cL_share 59 = .ok (.iadd, 1) := by decide +kernel
theorem dL_share_60 : decode cL_share 60 = .ok (.iaload, 1) := by decide +kernel
theorem dL_share_61 : decode cL_share 61 = .ok (.i2l, 1) := by decide +kernel
theorem dL_share_62 : decode cL_share 62 = .ok (.ladd, 1) := by decide +kernel
theorem dL_share_63 : decode cL_share 63 = .ok (.aload_n 3, 1) := by decide +kernel
theorem dL_share_64 : decode cL_share 64 = .ok (.iload 4, 2) := by decide +kernel
theorem dL_share_66 : decode cL_share 66 = .ok (.iconst 4, 1) := by decide +kernel
theorem dL_share_67 : decode cL_share 67 = .ok (.iload 12, 2) := by decide +kernel
theorem dL_share_69 : decode cL_share 69 = .ok (.imul, 1) := by decide +kernel
theorem dL_share_70 : decode cL_share 70 = .ok (.iadd, 1) := by decide +kernel
theorem dL_share_71 : decode cL_share 71 = .ok (.iconst 3, 1) := by decide +kernel
theorem dL_share_72 : decode cL_share 72 = .ok (.iadd, 1) := by decide +kernel
theorem dL_share_73 : decode cL_share 73 = .ok (.iaload, 1) := by decide +kernel
theorem dL_share_74 : decode cL_share 74 = .ok (.i2l, 1) := by decide +kernel
theorem dL_share_75 : decode cL_share 75 = .ok (.ladd, 1) := by decide +kernel
theorem dL_share_76 : decode cL_share 76 = .ok (.lstore 13, 2) := by decide +kernel
theorem dL_share_78 : decode cL_share 78 = .ok (.lload 13, 2) := by decide +kernel
theorem dL_share_80 : decode cL_share 80 = .ok (.lconst 0, 1) := by decide +kernel
theorem dL_share_81 : decode cL_share 81 = .ok (.lcmp, 1) := by decide +kernel
theorem dL_share_82 : decode cL_share 82 = .ok (.ifCond .le 64, 3) := by decide +kernel
theorem dL_share_85 : decode cL_share 85 = .ok (.iload_n 0, 1) := by decide +kernel
theorem dL_share_86 : decode cL_share 86 = .ok (.iconst 2, 1) := by decide +kernel
theorem dL_share_87 : decode cL_share 87 = .ok (.if_icmp .lt 11, 3) := by decide +kernel
theorem dL_share_90 : decode cL_share 90 = .ok (.iload_n 0, 1) := by decide +kernel
theorem dL_share_91 : decode cL_share 91 = .ok (.iconst 2, 1) := by decide +kernel
theorem dL_share_92 : decode cL_share 92 = .ok (.isub, 1) := by decide +kernel
theorem dL_share_93 : decode cL_share 93 = .ok (.iload 12, 2) := by decide +kernel
theorem dL_share_95 : decode cL_share 95 = .ok (.if_icmp .ne 51, 3) := by decide +kernel
theorem dL_share_98 : decode cL_share 98 = .ok (.iinc 7 1, 3) := by decide +kernel
theorem dL_share_101 : decode cL_share 101 = .ok (.lload 8, 2) := by decide +kernel
theorem dL_share_103 : decode cL_share 103 = .ok (.lload 13, 2) := by decide +kernel
theorem dL_share_105 : decode cL_share 105 = .ok (.ladd, 1) := by decide +kernel
theorem dL_share_106 : decode cL_share 106 = .ok (.lstore 8, 2) := by decide +kernel
theorem dL_share_108 : decode cL_share 108 = .ok (.lload 10, 2) := by decide +kernel
theorem dL_share_110 : decode cL_share 110 = .ok (.aload_n 3, 1) := by decide +kernel
theorem dL_share_111 : decode cL_share 111 = .ok (.iload 4, 2) := by decide +kernel
theorem dL_share_113 : decode cL_share 113 = .ok (.iconst 4, 1) := by decide +kernel
theorem dL_share_114 : decode cL_share 114 = .ok (.iload 12, 2) := by decide +kernel
theorem dL_share_116 : decode cL_share 116 = .ok (.imul, 1) := by decide +kernel
theorem dL_share_117 : decode cL_share 117 = .ok (.iadd, 1) := by decide +kernel
theorem dL_share_118 : decode cL_share 118 = .ok (.iload_n 1, 1) := by decide +kernel
theorem dL_share_119 : decode cL_share 119 = .ok (.iadd, 1) := by decide +kernel
theorem dL_share_120 : decode cL_share 120 = .ok (.iaload, 1) := by decide +kernel
theorem dL_share_121 : decode cL_share 121 = .ok (.i2l, 1) := by decide +kernel
theorem dL_share_122 : decode cL_share 122 = .ok (.ladd, 1) := by decide +kernel
theorem dL_share_123 : decode cL_share 123 = .ok (.lstore 10, 2) := by decide +kernel
theorem dL_share_125 : decode cL_share 125 = .ok (.dload 5, 2) := by decide +kernel
theorem dL_share_127 : decode cL_share 127 = .ok (.aload_n 3, 1) := by decide +kernel
theorem dL_share_128 : decode cL_share 128 = .ok (.iload 4, 2) := by decide +kernel
theorem dL_share_130 : decode cL_share 130 = .ok (.iconst 4, 1) := by decide +kernel
theorem dL_share_131 : decode cL_share 131 = .ok (.iload 12, 2) := by decide +kernel
theorem dL_share_133 : decode cL_share 133 = .ok (.imul, 1) := by decide +kernel
theorem dL_share_134 : decode cL_share 134 = .ok (.iadd, 1) := by decide +kernel
theorem dL_share_135 : decode cL_share 135 = .ok (.iload_n 1, 1) := by decide +kernel
theorem dL_share_136 : decode cL_share 136 = .ok (.iadd, 1) := by decide +kernel
theorem dL_share_137 : decode cL_share 137 = .ok (.iaload, 1) := by decide +kernel
theorem dL_share_138 : decode cL_share 138 = .ok (.i2d, 1) := by decide +kernel
theorem dL_share_139 : decode cL_share 139 = .ok (.lload 13, 2) := by decide +kernel
theorem dL_share_141 : decode cL_share 141 = .ok (.l2d, 1) := by decide +kernel
theorem dL_share_142 : decode cL_share 142 = .ok (.ddiv, 1) := by decide +kernel
theorem dL_share_143 : decode cL_share 143 = .ok (.dadd, 1) := by decide +kernel
theorem dL_share_144 : decode cL_share 144 = .ok (.dstore 5, 2) := by decide +kernel
theorem dL_share_146 : decode cL_share 146 = .ok (.iinc 12 1, 3) := by decide +kernel
theorem dL_share_149 : decode cL_share 149 = .ok (.goto (-128), 3) := by decide +kernel
theorem dL_share_152 : decode cL_share 152 = .ok (.iload 7, 2) := by decide +kernel
theorem dL_share_154 : decode cL_share 154 = .ok (.ifCond .ne 9, 3) := by decide +kernel
theorem dL_share_157 : decode cL_share 157 = .ok (.ldc2_w 63, 3) := by decide +kernel
theorem dL_share_160 : decode cL_share 160 = .ok (.goto 24, 3) := by decide +kernel
theorem dL_share_163 : decode cL_share 163 = .ok (.iload_n 0, 1) := by decide +kernel
theorem dL_share_164 : decode cL_share 164 = .ok (.iconst 1, 1) := by decide +kernel
theorem dL_share_165 : decode cL_share 165 = .ok (.if_icmp .ne 12, 3) := by decide +kernel
theorem dL_share_168 : decode cL_share 168 = .ok (.dload 5, 2) := by decide +kernel
theorem dL_share_170 : decode cL_share 170 = .ok (.iload 7, 2) := by decide +kernel
theorem dL_share_172 : decode cL_share 172 = .ok (.i2d, 1) := by decide +kernel
theorem dL_share_173 : decode cL_share 173 = .ok (.ddiv, 1) := by decide +kernel
theorem dL_share_174 : decode cL_share 174 = .ok (.goto 10, 3) := by decide +kernel
theorem dL_share_177 : decode cL_share 177 = .ok (.lload 10, 2) := by decide +kernel
theorem dL_share_179 : decode cL_share 179 = .ok (.l2d, 1) := by decide +kernel
theorem dL_share_180 : decode cL_share 180 = .ok (.lload 8, 2) := by decide +kernel
theorem dL_share_182 : decode cL_share 182 = .ok (.l2d, 1) := by decide +kernel
theorem dL_share_183 : decode cL_share 183 = .ok (.ddiv, 1) := by decide +kernel
theorem dL_share_184 : decode cL_share 184 = .ok (.dreturn, 1) := by decide +kernel
set_option maxRecDepth 20000 in
theorem ggL_index_L_share : GoodIn wsL_index wsL_share := goodIn_r _ [5, 6] (by decide +kernel) (by decide +kernel)
set_option maxRecDepth 20000 in
theorem gL_index_L_share : GoodIn wsL_index (va_wsS RL 67 yL_share wsL_share) := goodIn_app (goodIn_of _ (by decide +kernel)) ggL_index_L_share
set_option maxRecDepth 20000 in
theorem ggL_index_L_group : GoodIn wsL_index wsL_group := goodIn_r _ [9, 10, 11, 4, 12, 13, 14, 15, 16, 17, 18, 19, 20, 21, 22, 23, 24, 25, 26] rfl (by decide +kernel)
set_option maxRecDepth 20000 in
theorem gL_index_L_group : GoodIn wsL_index (va_wsS RL 71 yL_group wsL_group) := goodIn_app (goodIn_of _ (by decide +kernel)) ggL_index_L_group
theorem dL_index_0 : decode cL_index 0 = .ok (.ldc2_w 65, 3) := by decide +kernel
theorem dL_index_3 : decode cL_index 3 = .ok (.dstore 12, 2) := by decide +kernel
theorem dL_index_5 : decode cL_index 5 = .ok (.iconst 1, 1) := by decide +kernel
theorem dL_index_6 : decode cL_index 6 = .ok (.istore 14, 2) := by decide +kernel
theorem dL_index_8 : decode cL_index 8 = .ok (.iload 14, 2) := by decide +kernel
theorem dL_index_10 : decode cL_index 10 = .ok (.iload_n 1, 1) := by decide +kernel
theorem dL_index_11 : decode cL_index 11 = .ok (.if_icmp .gt 73, 3) := by decide +kernel
theorem dL_index_14 : decode cL_index 14 = .ok (.dconst 0, 1) := by decide +kernel
theorem dL_index_15 : decode cL_index 15 = .ok (.dstore 15, 2) := by decide +kernel
theorem dL_index_17 : decode cL_index 17 = .ok (.iconst 0, 1) := by decide +kernel
theorem dL_index_18 : decode cL_index 18 = .ok (.istore 17, 2) := by decide +kernel
theorem dL_index_20 : decode cL_index 20 = .ok (.iload 17, 2) := by decide +kernel
theorem dL_index_22 : decode cL_index 22 = .ok (.iconst 4, 1) := by decide +kernel
theorem dL_index_23 : decode cL_index 23 = .ok (.if_icmp .ge 48, 3) := by decide +kernel
theorem dL_index_26 : decode cL_index 26 = .ok (.dload 15, 2) := by decide +kernel
theorem dL_index_28 : decode cL_index 28 = .ok (.iload_n 0, 1) := by decide +kernel
theorem dL_index_29 : decode cL_index 29 = .ok (.iload 17, 2) := by decide +kernel
theorem dL_index_31 : decode cL_index 31 = .ok (.iload 14, 2) := by decide +kernel
theorem dL_index_33 : decode cL_index 33 = .ok (.aload 10, 2) := by decide +kernel
theorem dL_index_35 : decode cL_index 35 = .ok (.invokestatic 67, 3) := by decide +kernel
theorem dL_index_38 : decode cL_index 38 = .ok (.iload 17, 2) := by decide +kernel
theorem dL_index_40 : decode cL_index 40 = .ok (.iload 14, 2) := by decide +kernel
theorem dL_index_42 : decode cL_index 42 = .ok (.iload_n 2, 1) := by decide +kernel
theorem dL_index_43 : decode cL_index 43 = .ok (.aload_n 3, 1) := by decide +kernel
theorem dL_index_44 : decode cL_index 44 = .ok (.aload 4, 2) := by decide +kernel
theorem dL_index_46 : decode cL_index 46 = .ok (.aload 5, 2) := by decide +kernel
theorem dL_index_48 : decode cL_index 48 = .ok (.aload 6, 2) := by decide +kernel
theorem dL_index_50 : decode cL_index 50 = .ok (.aload 7, 2) := by decide +kernel
theorem dL_index_52 : decode cL_index 52 = .ok (.aload 8, 2) := by decide +kernel
theorem dL_index_54 : decode cL_index 54 = .ok (.aload 9, 2) := by decide +kernel
theorem dL_index_56 : decode cL_index 56 = .ok (.aload 11, 2) := by decide +kernel
theorem dL_index_58 : decode cL_index 58 = .ok (.invokestatic 71, 3) := by decide +kernel
theorem dL_index_61 : decode cL_index 61 = .ok (.dmul, 1) := by decide +kernel
theorem dL_index_62 : decode cL_index 62 = .ok (.dadd, 1) := by decide +kernel
theorem dL_index_63 : decode cL_index 63 = .ok (.dstore 15, 2) := by decide +kernel
theorem dL_index_65 : decode cL_index 65 = .ok (.iinc 17 1, 3) := by decide +kernel
theorem dL_index_68 : decode cL_index 68 = .ok (.goto (-48), 3) := by decide +kernel
theorem dL_index_71 : decode cL_index 71 = .ok (.dload 12, 2) := by decide +kernel
theorem dL_index_73 : decode cL_index 73 = .ok (.dload 15, 2) := by decide +kernel
theorem dL_index_75 : decode cL_index 75 = .ok (.dmul, 1) := by decide +kernel
theorem dL_index_76 : decode cL_index 76 = .ok (.dstore 12, 2) := by decide +kernel
theorem dL_index_78 : decode cL_index 78 = .ok (.iinc 14 1, 3) := by decide +kernel
theorem dL_index_81 : decode cL_index 81 = .ok (.goto (-73), 3) := by decide +kernel
theorem dL_index_84 : decode cL_index 84 = .ok (.dload 12, 2) := by decide +kernel
theorem dL_index_86 : decode cL_index 86 = .ok (.dreturn, 1) := by decide +kernel
set_option maxRecDepth 20000 in
theorem ggL_number_L_index : GoodIn wsL_number wsL_index := goodIn_r _ [8, 9, 10, 11, 7, 12, 13, 14, 15, 16, 17, 18, 19, 20, 21, 22, 23, 24, 25, 26, 27, 28, 29, 30, 31, 32, 33] rfl (by decide +kernel)
set_option maxRecDepth 20000 in
theorem gL_number_L_index : GoodIn wsL_number (va_wsS RL 75 yL_index wsL_index) := goodIn_app (goodIn_of _ (by decide +kernel)) ggL_number_L_index
theorem dL_number_0 : decode cL_number 0 = .ok (.iconst 0, 1) := by decide +kernel
theorem dL_number_1 : decode cL_number 1 = .ok (.iload_n 0, 1) := by decide +kernel
theorem dL_number_2 : decode cL_number 2 = .ok (.iload_n 1, 1) := by decide +kernel
theorem dL_number_3 : decode cL_number 3 = .ok (.aload_n 2, 1) := by decide +kernel
theorem dL_number_4 : decode cL_number 4 = .ok (.aload_n 3, 1) := by decide +kernel
theorem dL_number_5 : decode cL_number 5 = .ok (.aload 4, 2) := by decide +kernel
theorem dL_number_7 : decode cL_number 7 = .ok (.aload 5, 2) := by decide +kernel
theorem dL_number_9 : decode cL_number 9 = .ok (.aload 6, 2) := by decide +kernel
theorem dL_number_11 : decode cL_number 11 = .ok (.aload 7, 2) := by decide +kernel
theorem dL_number_13 : decode cL_number 13 = .ok (.aload 8, 2) := by decide +kernel
theorem dL_number_15 : decode cL_number 15 = .ok (.aload 9, 2) := by decide +kernel
theorem dL_number_17 : decode cL_number 17 = .ok (.aload 10, 2) := by decide +kernel
theorem dL_number_19 : decode cL_number 19 = .ok (.invokestatic 75, 3) := by decide +kernel
theorem dL_number_22 : decode cL_number 22 = .ok (.ldc2_w 79, 3) := by decide +kernel
