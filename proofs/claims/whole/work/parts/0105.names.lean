theorem dX12_init_505 : decode cX12_init 505 = .ok (.bipush 105, 2) := by decide +kernel
theorem dX12_init_507 : decode cX12_init 507 = .ok (.bipush 102, 2) := by decide +kernel
theorem dX12_init_509 : decode cX12_init 509 = .ok (.iconst 0, 1) := by decide +kernel
theorem dX12_init_510 : decode cX12_init 510 = .ok (.iconst 0, 1) := by decide +kernel
theorem dX12_init_511 : decode cX12_init 511 = .ok (.iconst 0, 1) := by decide +kernel
theorem dX12_init_512 : decode cX12_init 512 = .ok (.iconst 0, 1) := by decide +kernel
theorem dX12_init_513 : decode cX12_init 513 = .ok (.iconst 0, 1) := by decide +kernel
theorem dX12_init_514 : decode cX12_init 514 = .ok (.invokestatic 191, 3) := by decide +kernel
theorem dX12_init_517 : decode cX12_init 517 = .ok (.lastore, 1) := by decide +kernel
theorem dX12_init_518 : decode cX12_init 518 = .ok (.aload_n 0, 1) := by decide +kernel
theorem dX12_init_519 : decode cX12_init 519 = .ok (.getfield 34, 3) := by decide +kernel
theorem dX12_init_522 : decode cX12_init 522 = .ok (.iconst 2, 1) := by decide +kernel
theorem dX12_init_523 : decode cX12_init 523 = .ok (.bipush 112, 2) := by decide +kernel
theorem dX12_init_525 : decode cX12_init 525 = .ok (.bipush 111, 2) := by decide +kernel
theorem dX12_init_527 : decode cX12_init 527 = .ok (.bipush 105, 2) := by decide +kernel
theorem dX12_init_529 : decode cX12_init 529 = .ok (.bipush 110, 2) := by decide +kernel
theorem dX12_init_531 : decode cX12_init 531 = .ok (.bipush 116, 2) := by decide +kernel
theorem dX12_init_533 : decode cX12_init 533 = .ok (.bipush 115, 2) := by decide +kernel
theorem dX12_init_535 : decode cX12_init 535 = .ok (.iconst 0, 1) := by decide +kernel
theorem dX12_init_536 : decode cX12_init 536 = .ok (.invokestatic 191, 3) := by decide +kernel
theorem dX12_init_539 : decode cX12_init 539 = .ok (.lastore, 1) := by decide +kernel
theorem dX12_init_540 : decode cX12_init 540 = .ok (.aload_n 0, 1) := by decide +kernel
theorem dX12_init_541 : decode cX12_init 541 = .ok (.getfield 34, 3) := by decide +kernel
theorem dX12_init_544 : decode cX12_init 544 = .ok (.iconst 3, 1) := by decide +kernel
theorem dX12_init_545 : decode cX12_init 545 = .ok (.bipush 116, 2) := by decide +kernel
theorem dX12_init_547 : decode cX12_init 547 = .ok (.bipush 105, 2) := by decide +kernel
theorem dX12_init_549 : decode cX12_init 549 = .ok (.bipush 116, 2) := by decide +kernel
theorem dX12_init_551 : decode cX12_init 551 = .ok (.bipush 108, 2) := by decide +kernel
theorem dX12_init_553 : decode cX12_init 553 = .ok (.bipush 101, 2) := by decide +kernel
theorem dX12_init_555 : decode cX12_init 555 = .ok (.iconst 0, 1) := by decide +kernel
theorem dX12_init_556 : decode cX12_init 556 = .ok (.iconst 0, 1) := by decide +kernel
theorem dX12_init_557 : decode cX12_init 557 = .ok (.invokestatic 191, 3) := by decide +kernel
theorem dX12_init_560 : decode cX12_init 560 = .ok (.lastore, 1) := by decide +kernel
theorem dX12_init_561 : decode cX12_init 561 = .ok (.aload_n 0, 1) := by decide +kernel
theorem dX12_init_562 : decode cX12_init 562 = .ok (.getfield 34, 3) := by decide +kernel
theorem dX12_init_565 : decode cX12_init 565 = .ok (.iconst 4, 1) := by decide +kernel
theorem dX12_init_566 : decode cX12_init 566 = .ok (.bipush 117, 2) := by decide +kernel
theorem dX12_init_568 : decode cX12_init 568 = .ok (.bipush 110, 2) := by decide +kernel
theorem dX12_init_570 : decode cX12_init 570 = .ok (.bipush 100, 2) := by decide +kernel
theorem dX12_init_572 : decode cX12_init 572 = .ok (.bipush 101, 2) := by decide +kernel
theorem dX12_init_574 : decode cX12_init 574 = .ok (.bipush 114, 2) := by decide +kernel
theorem dX12_init_576 : decode cX12_init 576 = .ok (.iconst 0, 1) := by decide +kernel
theorem dX12_init_577 : decode cX12_init 577 = .ok (.iconst 0, 1) := by decide +kernel
theorem dX12_init_578 : decode cX12_init 578 = .ok (.invokestatic 191, 3) := by decide +kernel
theorem dX12_init_581 : decode cX12_init 581 = .ok (.lastore, 1) := by decide +kernel
theorem dX12_init_582 : decode cX12_init 582 = .ok (.aload_n 0, 1) := by decide +kernel
theorem dX12_init_583 : decode cX12_init 583 = .ok (.getfield 34, 3) := by decide +kernel
theorem dX12_init_586 : decode cX12_init 586 = .ok (.iconst 5, 1) := by decide +kernel
theorem dX12_init_587 : decode cX12_init 587 = .ok (.bipush 111, 2) := by decide +kernel
theorem dX12_init_589 : decode cX12_init 589 = .ok (.bipush 114, 2) := by decide +kernel
theorem dX12_init_591 : decode cX12_init 591 = .ok (.iconst 0, 1) := by decide +kernel
theorem dX12_init_592 : decode cX12_init 592 = .ok (.iconst 0, 1) := by decide +kernel
theorem dX12_init_593 : decode cX12_init 593 = .ok (.iconst 0, 1) := by decide +kernel
theorem dX12_init_594 : decode cX12_init 594 = .ok (.iconst 0, 1) := by decide +kernel
theorem dX12_init_595 : decode cX12_init 595 = .ok (.iconst 0, 1) := by decide +kernel
theorem dX12_init_596 : decode cX12_init 596 = .ok (.invokestatic 191, 3) := by decide +kernel
theorem dX12_init_599 : decode cX12_init 599 = .ok (.lastore, 1) := by decide +kernel
theorem dX12_init_600 : decode cX12_init 600 = .ok (.aload_n 0, 1) := by decide +kernel
theorem dX12_init_601 : decode cX12_init 601 = .ok (.getfield 34, 3) := by decide +kernel
theorem dX12_init_604 : decode cX12_init 604 = .ok (.bipush 6, 2) := by decide +kernel
theorem dX12_init_606 : decode cX12_init 606 = .ok (.bipush 97, 2) := by decide +kernel
theorem dX12_init_608 : decode cX12_init 608 = .ok (.bipush 110, 2) := by decide +kernel
theorem dX12_init_610 : decode cX12_init 610 = .ok (.bipush 100, 2) := by decide +kernel
theorem dX12_init_612 : decode cX12_init 612 = .ok (.iconst 0, 1) := by decide +kernel
theorem dX12_init_613 : decode cX12_init 613 = .ok (.iconst 0, 1) := by decide +kernel
theorem dX12_init_614 : decode cX12_init 614 = .ok (.iconst 0, 1) := by decide +kernel
theorem dX12_init_615 : decode cX12_init 615 = .ok (.iconst 0, 1) := by decide +kernel
theorem dX12_init_616 : decode cX12_init 616 = .ok (.invokestatic 191, 3) := by decide +kernel
theorem dX12_init_619 : decode cX12_init 619 = .ok (.lastore, 1) := by decide +kernel
theorem dX12_init_620 : decode cX12_init 620 = .ok (.aload_n 0, 1) := by decide +kernel
theorem dX12_init_621 : decode cX12_init 621 = .ok (.getfield 34, 3) := by decide +kernel
theorem dX12_init_624 : decode cX12_init 624 = .ok (.bipush 7, 2) := by decide +kernel
theorem dX12_init_626 : decode cX12_init 626 = .ok (.bipush 97, 2) := by decide +kernel
theorem dX12_init_628 : decode cX12_init 628 = .ok (.bipush 103, 2) := by decide +kernel
theorem dX12_init_630 : decode cX12_init 630 = .ok (.bipush 101, 2) := by decide +kernel
theorem dX12_init_632 : decode cX12_init 632 = .ok (.iconst 0, 1) := by decide +kernel
theorem dX12_init_633 : decode cX12_init 633 = .ok (.iconst 0, 1) := by decide +kernel
theorem dX12_init_634 : decode cX12_init 634 = .ok (.iconst 0, 1) := by decide +kernel
theorem dX12_init_635 : decode cX12_init 635 = .ok (.iconst 0, 1) := by decide +kernel
theorem dX12_init_636 : decode cX12_init 636 = .ok (.invokestatic 191, 3) := by decide +kernel
theorem dX12_init_639 : decode cX12_init 639 = .ok (.lastore, 1) := by decide +kernel
theorem dX12_init_640 : decode cX12_init 640 = .ok (.aload_n 0, 1) := by decide +kernel
theorem dX12_init_641 : decode cX12_init 641 = .ok (.getfield 34, 3) := by decide +kernel
theorem dX12_init_644 : decode cX12_init 644 = .ok (.bipush 8, 2) := by decide +kernel
theorem dX12_init_646 : decode cX12_init 646 = .ok (.bipush 115, 2) := by decide +kernel
theorem dX12_init_648 : decode cX12_init 648 = .ok (.bipush 101, 2) := by decide +kernel
theorem dX12_init_650 : decode cX12_init 650 = .ok (.bipush 120, 2) := by decide +kernel
theorem dX12_init_652 : decode cX12_init 652 = .ok (.iconst 0, 1) := by decide +kernel
theorem dX12_init_653 : decode cX12_init 653 = .ok (.iconst 0, 1) := by decide +kernel
theorem dX12_init_654 : decode cX12_init 654 = .ok (.iconst 0, 1) := by decide +kernel
theorem dX12_init_655 : decode cX12_init 655 = .ok (.iconst 0, 1) := by decide +kernel
theorem dX12_init_656 : decode cX12_init 656 = .ok (.invokestatic 191, 3) := by decide +kernel
theorem dX12_init_659 : decode cX12_init 659 = .ok (.lastore, 1) := by decide +kernel
theorem dX12_init_660 : decode cX12_init 660 = .ok (.aload_n 0, 1) := by decide +kernel
theorem dX12_init_661 : decode cX12_init 661 = .ok (.getfield 34, 3) := by decide +kernel
theorem dX12_init_664 : decode cX12_init 664 = .ok (.bipush 9, 2) := by decide +kernel
theorem dX12_init_666 : decode cX12_init 666 = .ok (.bipush 98, 2) := by decide +kernel
theorem dX12_init_668 : decode cX12_init 668 = .ok (.bipush 114, 2) := by decide +kernel
theorem dX12_init_670 : decode cX12_init 670 = .ok (.bipush 101, 2) := by decide +kernel
theorem dX12_init_672 : decode cX12_init 672 = .ok (.bipush 101, 2) := by decide +kernel
theorem dX12_init_674 : decode cX12_init 674 = .ok (.bipush 100, 2) := by decide +kernel
theorem dX12_init_676 : decode cX12_init 676 = .ok (.iconst 0, 1) := by decide +kernel
theorem dX12_init_677 : decode cX12_init 677 = .ok (.iconst 0, 1) := by decide +kernel
theorem dX12_init_678 : decode cX12_init 678 = .ok (.invokestatic 191, 3) := by decide +kernel
theorem dX12_init_681 : decode cX12_init 681 = .ok (.lastore, 1) := by decide +kernel
theorem dX12_init_682 : decode cX12_init 682 = .ok (.aload_n 0, 1) := by decide +kernel
theorem dX12_init_683 : decode cX12_init 683 = .ok (.getfield 34, 3) := by decide +kernel
theorem dX12_init_686 : decode cX12_init 686 = .ok (.bipush 10, 2) := by decide +kernel
theorem dX12_init_688 : decode cX12_init 688 = .ok (.bipush 103, 2) := by decide +kernel
theorem dX12_init_690 : decode cX12_init 690 = .ok (.bipush 114, 2) := by decide +kernel
theorem dX12_init_692 : decode cX12_init 692 = .ok (.bipush 111, 2) := by decide +kernel
theorem dX12_init_694 : decode cX12_init 694 = .ok (.bipush 117, 2) := by decide +kernel
theorem dX12_init_696 : decode cX12_init 696 = .ok (.bipush 112, 2) := by decide +kernel
theorem dX12_init_698 : decode cX12_init 698 = .ok (.iconst 0, 1) := by decide +kernel
theorem dX12_init_699 : decode cX12_init 699 = .ok (.iconst 0, 1) := by decide +kernel
theorem dX12_init_700 : decode cX12_init 700 = .ok (.invokestatic 191, 3) := by decide +kernel
theorem dX12_init_703 : decode cX12_init 703 = .ok (.lastore, 1) := by decide +kernel
theorem dX12_init_704 : decode cX12_init 704 = .ok (.aload_n 0, 1) := by decide +kernel
theorem dX12_init_705 : decode cX12_init 705 = .ok (.getfield 34, 3) := by decide +kernel
theorem dX12_init_708 : decode cX12_init 708 = .ok (.bipush 11, 2) := by decide +kernel
theorem dX12_init_710 : decode cX12_init 710 = .ok (.bipush 99, 2) := by decide +kernel
theorem dX12_init_712 : decode cX12_init 712 = .ok (.bipush 108, 2) := by decide +kernel
theorem dX12_init_714 : decode cX12_init 714 = .ok (.bipush 97, 2) := by decide +kernel
theorem dX12_init_716 : decode cX12_init 716 = .ok (.bipush 115, 2) := by decide +kernel
theorem dX12_init_718 : decode cX12_init 718 = .ok (.bipush 115, 2) := by decide +kernel
theorem dX12_init_720 : decode cX12_init 720 = .ok (.iconst 0, 1) := by decide +kernel
theorem dX12_init_721 : decode cX12_init 721 = .ok (.iconst 0, 1) := by decide +kernel
theorem dX12_init_722 : decode cX12_init 722 = .ok (.invokestatic 191, 3) := by decide +kernel
theorem dX12_init_725 : decode cX12_init 725 = .ok (.lastore, 1) := by decide +kernel
theorem dX12_init_726 : decode cX12_init 726 = .ok (.aload_n 0, 1) := by decide +kernel
theorem dX12_init_727 : decode cX12_init 727 = .ok (.getfield 34, 3) := by decide +kernel
theorem dX12_init_730 : decode cX12_init 730 = .ok (.bipush 12, 2) := by decide +kernel
theorem dX12_init_732 : decode cX12_init 732 = .ok (.bipush 111, 2) := by decide +kernel
theorem dX12_init_734 : decode cX12_init 734 = .ok (.bipush 119, 2) := by decide +kernel
theorem dX12_init_736 : decode cX12_init 736 = .ok (.bipush 110, 2) := by decide +kernel
theorem dX12_init_738 : decode cX12_init 738 = .ok (.iconst 0, 1) := by decide +kernel
theorem dX12_init_739 : decode cX12_init 739 = .ok (.iconst 0, 1) := by decide +kernel
theorem dX12_init_740 : decode cX12_init 740 = .ok (.iconst 0, 1) := by decide +kernel
theorem dX12_init_741 : decode cX12_init 741 = .ok (.iconst 0, 1) := by decide +kernel
theorem dX12_init_742 : decode cX12_init 742 = .ok (.invokestatic 191, 3) := by decide +kernel
theorem dX12_init_745 : decode cX12_init 745 = .ok (.lastore, 1) := by decide +kernel
theorem dX12_init_746 : decode cX12_init 746 = .ok (.aload_n 0, 1) := by decide +kernel
theorem dX12_init_747 : decode cX12_init 747 = .ok (.getfield 34, 3) := by decide +kernel
theorem dX12_init_750 : decode cX12_init 750 = .ok (.bipush 13, 2) := by decide +kernel
theorem dX12_init_752 : decode cX12_init 752 = .ok (.bipush 107, 2) := by decide +kernel
theorem dX12_init_754 : decode cX12_init 754 = .ok (.bipush 105, 2) := by decide +kernel
theorem dX12_init_756 : decode cX12_init 756 = .ok (.bipush 110, 2) := by decide +kernel
theorem dX12_init_758 : decode cX12_init 758 = .ok (.iconst 0, 1) := by decide +kernel
theorem dX12_init_759 : decode cX12_init 759 = .ok (.iconst 0, 1) := by decide +kernel
theorem dX12_init_760 : decode cX12_init 760 = .ok (.iconst 0, 1) := by decide +kernel
theorem dX12_init_761 : decode cX12_init 761 = .ok (.iconst 0, 1) := by decide +kernel
theorem dX12_init_762 : decode cX12_init 762 = .ok (.invokestatic 191, 3) := by decide +kernel
theorem dX12_init_765 : decode cX12_init 765 = .ok (.lastore, 1) := by decide +kernel
theorem dX12_init_766 : decode cX12_init 766 = .ok (.aload_n 0, 1) := by decide +kernel
theorem dX12_init_767 : decode cX12_init 767 = .ok (.getfield 34, 3) := by decide +kernel
theorem dX12_init_770 : decode cX12_init 770 = .ok (.bipush 14, 2) := by decide +kernel
theorem dX12_init_772 : decode cX12_init 772 = .ok (.bipush 112, 2) := by decide +kernel
theorem dX12_init_774 : decode cX12_init 774 = .ok (.bipush 97, 2) := by decide +kernel
theorem dX12_init_776 : decode cX12_init 776 = .ok (.bipush 114, 2) := by decide +kernel
theorem dX12_init_778 : decode cX12_init 778 = .ok (.bipush 116, 2) := by decide +kernel
theorem dX12_init_780 : decode cX12_init 780 = .ok (.bipush 101, 2) := by decide +kernel
theorem dX12_init_782 : decode cX12_init 782 = .ok (.bipush 100, 2) := by decide +kernel
theorem dX12_init_784 : decode cX12_init 784 = .ok (.iconst 0, 1) := by decide +kernel
theorem dX12_init_785 : decode cX12_init 785 = .ok (.invokestatic 191, 3) := by decide +kernel
theorem dX12_init_788 : decode cX12_init 788 = .ok (.lastore, 1) := by decide +kernel
theorem dX12_init_789 : decode cX12_init 789 = .ok (.aload_n 0, 1) := by decide +kernel
theorem dX12_init_790 : decode cX12_init 790 = .ok (.getfield 34, 3) := by decide +kernel
theorem dX12_init_793 : decode cX12_init 793 = .ok (.bipush 15, 2) := by decide +kernel
theorem dX12_init_795 : decode cX12_init 795 = .ok (.bipush 98, 2) := by decide +kernel
theorem dX12_init_797 : decode cX12_init 797 = .ok (.bipush 101, 2) := by decide +kernel
theorem dX12_init_799 : decode cX12_init 799 = .ok (.bipush 97, 2) := by decide +kernel
theorem dX12_init_801 : decode cX12_init 801 = .ok (.bipush 116, 2) := by decide +kernel
theorem dX12_init_803 : decode cX12_init 803 = .ok (.bipush 101, 2) := by decide +kernel
theorem dX12_init_805 : decode cX12_init 805 = .ok (.bipush 110, 2) := by decide +kernel
theorem dX12_init_807 : decode cX12_init 807 = .ok (.iconst 0, 1) := by decide +kernel
theorem dX12_init_808 : decode cX12_init 808 = .ok (.invokestatic 191, 3) := by decide +kernel
theorem dX12_init_811 : decode cX12_init 811 = .ok (.lastore, 1) := by decide +kernel
theorem dX12_init_812 : decode cX12_init 812 = .ok (.aload_n 0, 1) := by decide +kernel
theorem dX12_init_813 : decode cX12_init 813 = .ok (.iconst 1, 1) := by decide +kernel
theorem dX12_init_814 : decode cX12_init 814 = .ok (.putfield 195, 3) := by decide +kernel
theorem dX12_init_817 : decode cX12_init 817 = .ok (.iconst 0, 1) := by decide +kernel
theorem dX12_init_818 : decode cX12_init 818 = .ok (.istore_n 1, 1) := by decide +kernel
theorem dX12_init_819 : decode cX12_init 819 = .ok (.iload_n 1, 1) := by decide +kernel
theorem dX12_init_820 : decode cX12_init 820 = .ok (.bipush 30, 2) := by decide +kernel
theorem dX12_init_822 : decode cX12_init 822 = .ok (.if_icmp .ge 16, 3) := by decide +kernel
theorem dX12_init_825 : decode cX12_init 825 = .ok (.aload_n 0, 1) := by decide +kernel
theorem dX12_init_826 : decode cX12_init 826 = .ok (.getfield 152, 3) := by decide +kernel
theorem dX12_init_829 : decode cX12_init 829 = .ok (.iload_n 1, 1) := by decide +kernel
theorem dX12_init_830 : decode cX12_init 830 = .ok (.iconst (-1), 1) := by decide +kernel
theorem dX12_init_831 : decode cX12_init 831 = .ok (.iastore, 1) := by decide +kernel
theorem dX12_init_832 : decode cX12_init 832 = .ok (.iinc 1 1, 3) := by decide +kernel
theorem dX12_init_835 : decode cX12_init 835 = .ok (.goto (-16), 3) := by decide +kernel
theorem dX12_init_838 : decode cX12_init 838 = .ok (.return_, 1) := by decide +kernel
set_option maxRecDepth 20000 in
theorem ggX12_feed_X12_put : GoodIn wsX12_feed wsX12_put := goodIn_r _ [6, 7, 1, 8, 9, 10, 11, 12, 13, 14, 15, 16, 17, 18, 19, 20, 21, 22, 23, 24, 25, 26, 27, 28, 29, 30, 31, 32, 33, 34, 35, 36, 37, 38, 39, 40, 41, 42, 43, 44, 45, 46, 47, 48, 49, 50, 51, 52, 53, 54, 55, 56, 57, 58, 59, 60, 61, 62, 63, 64, 65, 66, 67, 68, 69, 70, 71, 72, 73, 74, 75, 76, 77, 78, 79, 80, 81, 82, 83, 84] (by decide +kernel) (by decide +kernel)
set_option maxRecDepth 20000 in
theorem gX12_feed_X12_put : GoodIn wsX12_feed (wsV RX12 201 RX12 yX12_put wsX12_put) := goodIn_app (goodIn_of _ (by decide +kernel)) ggX12_feed_X12_put
theorem dX12_feed_0 : decode cX12_feed 0 = .ok (.aload_n 0, 1) := by decide +kernel
theorem dX12_feed_1 : decode cX12_feed 1 = .ok (.getfield 198, 3) := by decide +kernel
theorem dX12_feed_4 : decode cX12_feed 4 = .ok (.bipush 20, 2) := by decide +kernel
theorem dX12_feed_6 : decode cX12_feed 6 = .ok (.iadd, 1) := by decide +kernel
theorem dX12_feed_7 : decode cX12_feed 7 = .ok (.sipush 2000, 3) := by decide +kernel
theorem dX12_feed_10 : decode cX12_feed 10 = .ok (.if_icmp .le 5, 3) := by decide +kernel
theorem dX12_feed_13 : decode cX12_feed 13 = .ok (.iconst (-1), 1) := by decide +kernel
theorem dX12_feed_14 : decode cX12_feed 14 = .ok (.ireturn, 1) := by decide +kernel
theorem dX12_feed_15 : decode cX12_feed 15 = .ok (.aload_n 0, 1) := by decide +kernel
theorem dX12_feed_16 : decode cX12_feed 16 = .ok (.iload_n 1, 1) := by decide +kernel
theorem dX12_feed_17 : decode cX12_feed 17 = .ok (.invokevirtual 201, 3) := by decide +kernel
theorem dX12_feed_20 : decode cX12_feed 20 = .ok (.aload_n 0, 1) := by decide +kernel
theorem dX12_feed_21 : decode cX12_feed 21 = .ok (.iload_n 2, 1) := by decide +kernel
theorem dX12_feed_22 : decode cX12_feed 22 = .ok (.invokevirtual 201, 3) := by decide +kernel
theorem dX12_feed_25 : decode cX12_feed 25 = .ok (.aload_n 0, 1) := by decide +kernel
theorem dX12_feed_26 : decode cX12_feed 26 = .ok (.iload_n 3, 1) := by decide +kernel
theorem dX12_feed_27 : decode cX12_feed 27 = .ok (.invokevirtual 201, 3) := by decide +kernel
theorem dX12_feed_30 : decode cX12_feed 30 = .ok (.aload_n 0, 1) := by decide +kernel
theorem dX12_feed_31 : decode cX12_feed 31 = .ok (.iload 4, 2) := by decide +kernel
theorem dX12_feed_33 : decode cX12_feed 33 = .ok (.invokevirtual 201, 3) := by decide +kernel
theorem dX12_feed_36 : decode cX12_feed 36 = .ok (.aload_n 0, 1) := by decide +kernel
theorem dX12_feed_37 : decode cX12_feed 37 = .ok (.iload 5, 2) := by decide +kernel
theorem dX12_feed_39 : decode cX12_feed 39 = .ok (.invokevirtual 201, 3) := by decide +kernel
theorem dX12_feed_42 : decode cX12_feed 42 = .ok (.aload_n 0, 1) := by decide +kernel
theorem dX12_feed_43 : decode cX12_feed 43 = .ok (.getfield 198, 3) := by decide +kernel
theorem dX12_feed_46 : decode cX12_feed 46 = .ok (.ireturn, 1) := by decide +kernel
theorem dX12_put_0 : decode cX12_put 0 = .ok (.bipush 24, 2) := by decide +kernel
theorem dX12_put_2 : decode cX12_put 2 = .ok (.istore_n 2, 1) := by decide +kernel
theorem dX12_put_3 : decode cX12_put 3 = .ok (.iload_n 2, 1) := by decide +kernel
theorem dX12_put_4 : decode cX12_put 4 = .ok (.ifCond .lt 32, 3) := by decide +kernel
theorem dX12_put_7 : decode cX12_put 7 = .ok (.aload_n 0, 1) := by decide +kernel
theorem dX12_put_8 : decode cX12_put 8 = .ok (.getfield 13, 3) := by decide +kernel
theorem dX12_put_11 : decode cX12_put 11 = .ok (.aload_n 0, 1) := by decide +kernel
theorem dX12_put_12 : decode cX12_put 12 = .ok (.getfield 198, 3) := by decide +kernel
theorem dX12_put_15 : decode cX12_put 15 = .ok (.iload_n 1, 1) := by decide +kernel
theorem dX12_put_16 : decode cX12_put 16 = .ok (.iload_n 2, 1) := by decide +kernel
theorem dX12_put_17 : decode cX12_put 17 = .ok (.ishr, 1) := by decide +kernel
theorem dX12_put_18 : decode cX12_put 18 = .ok (.i2b, 1) := by decide +kernel
theorem dX12_put_19 : decode cX12_put 19 = .ok (.bastore, 1) := by decide +kernel
theorem dX12_put_20 : decode cX12_put 20 = .ok (.aload_n 0, 1) := by decide +kernel
theorem dX12_put_21 : decode cX12_put 21 = .ok (.dup, 1) := by decide +kernel
theorem dX12_put_22 : decode cX12_put 22 = .ok (.getfield 198, 3) := by decide +kernel
theorem dX12_put_25 : decode cX12_put 25 = .ok (.iconst 1, 1) := by decide +kernel
theorem dX12_put_26 : decode cX12_put 26 = .ok (.iadd, 1) := by decide +kernel
theorem dX12_put_27 : decode cX12_put 27 = .ok (.putfield 198, 3) := by decide +kernel
theorem dX12_put_30 : decode cX12_put 30 = .ok (.iinc 2 (-8), 3) := by decide +kernel
theorem dX12_put_33 : decode cX12_put 33 = .ok (.goto (-30), 3) := by decide +kernel
theorem dX12_put_36 : decode cX12_put 36 = .ok (.return_, 1) := by decide +kernel
theorem dX12_back_0 : decode cX12_back 0 = .ok (.iload_n 1, 1) := by decide +kernel
theorem dX12_back_1 : decode cX12_back 1 = .ok (.ifCond .lt 11, 3) := by decide +kernel
theorem dX12_back_4 : decode cX12_back 4 = .ok (.iload_n 1, 1) := by decide +kernel
theorem dX12_back_5 : decode cX12_back 5 = .ok (.aload_n 0, 1) := by decide +kernel
theorem dX12_back_6 : decode cX12_back 6 = .ok (.getfield 198, 3) := by decide +kernel
theorem dX12_back_9 : decode cX12_back 9 = .ok (.if_icmp .le 5, 3) := by decide +kernel
theorem dX12_back_12 : decode cX12_back 12 = .ok (.iconst (-1), 1) := by decide +kernel
theorem dX12_back_13 : decode cX12_back 13 = .ok (.ireturn, 1) := by decide +kernel
theorem dX12_back_14 : decode cX12_back 14 = .ok (.aload_n 0, 1) := by decide +kernel
theorem dX12_back_15 : decode cX12_back 15 = .ok (.dup, 1) := by decide +kernel
theorem dX12_back_16 : decode cX12_back 16 = .ok (.getfield 198, 3) := by decide +kernel
theorem dX12_back_19 : decode cX12_back 19 = .ok (.iload_n 1, 1) := by decide +kernel
theorem dX12_back_20 : decode cX12_back 20 = .ok (.isub, 1) := by decide +kernel
theorem dX12_back_21 : decode cX12_back 21 = .ok (.putfield 198, 3) := by decide +kernel
theorem dX12_back_24 : decode cX12_back 24 = .ok (.aload_n 0, 1) := by decide +kernel
theorem dX12_back_25 : decode cX12_back 25 = .ok (.getfield 198, 3) := by decide +kernel
theorem dX12_back_28 : decode cX12_back 28 = .ok (.ireturn, 1) := by decide +kernel
theorem dX12_at_0 : decode cX12_at 0 = .ok (.iload_n 1, 1) := by decide +kernel
theorem dX12_at_1 : decode cX12_at 1 = .ok (.aload_n 0, 1) := by decide +kernel
theorem dX12_at_2 : decode cX12_at 2 = .ok (.getfield 205, 3) := by decide +kernel
theorem dX12_at_5 : decode cX12_at 5 = .ok (.if_icmp .ge 16, 3) := by decide +kernel
theorem dX12_at_8 : decode cX12_at 8 = .ok (.aload_n 0, 1) := by decide +kernel
theorem dX12_at_9 : decode cX12_at 9 = .ok (.getfield 17, 3) := by decide +kernel
theorem dX12_at_12 : decode cX12_at 12 = .ok (.iload_n 1, 1) := by decide +kernel
theorem dX12_at_13 : decode cX12_at 13 = .ok (.baload, 1) := by decide +kernel
theorem dX12_at_14 : decode cX12_at 14 = .ok (.sipush 255, 3) := by decide +kernel
theorem dX12_at_17 : decode cX12_at 17 = .ok (.iand, 1) := by decide +kernel
theorem dX12_at_18 : decode cX12_at 18 = .ok (.goto 4, 3) := by decide +kernel
theorem dX12_at_21 : decode cX12_at 21 = .ok (.iconst 0, 1) := by decide +kernel
theorem dX12_at_22 : decode cX12_at 22 = .ok (.ireturn, 1) := by decide +kernel
theorem dX12_isDigit_0 : decode cX12_isDigit 0 = .ok (.iload_n 0, 1) := by decide +kernel
theorem dX12_isDigit_1 : decode cX12_isDigit 1 = .ok (.bipush 48, 2) := by decide +kernel
theorem dX12_isDigit_3 : decode cX12_isDigit 3 = .ok (.if_icmp .lt 13, 3) := by decide +kernel
theorem dX12_isDigit_6 : decode cX12_isDigit 6 = .ok (.iload_n 0, 1) := by decide +kernel
theorem dX12_isDigit_7 : decode cX12_isDigit 7 = .ok (.bipush 57, 2) := by decide +kernel
theorem dX12_isDigit_9 : decode cX12_isDigit 9 = .ok (.if_icmp .gt 7, 3) := by decide +kernel
theorem dX12_isDigit_12 : decode cX12_isDigit 12 = .ok (.iconst 1, 1) := by decide +kernel
theorem dX12_isDigit_13 : decode cX12_isDigit 13 = .ok (.goto 4, 3) := by decide +kernel
theorem dX12_isDigit_16 : decode cX12_isDigit 16 = .ok (.iconst 0, 1) := by decide +kernel
theorem dX12_isDigit_17 : decode cX12_isDigit 17 = .ok (.ireturn, 1) := by decide +kernel
theorem dX12_isLetter_0 : decode cX12_isLetter 0 = .ok (.iload_n 0, 1) := by decide +kernel
theorem dX12_isLetter_1 : decode cX12_isLetter 1 = .ok (.bipush 97, 2) := by decide +kernel
theorem dX12_isLetter_3 : decode cX12_isLetter 3 = .ok (.if_icmp .lt 13, 3) := by decide +kernel
theorem dX12_isLetter_6 : decode cX12_isLetter 6 = .ok (.iload_n 0, 1) := by decide +kernel
theorem dX12_isLetter_7 : decode cX12_isLetter 7 = .ok (.bipush 122, 2) := by decide +kernel
theorem dX12_isLetter_9 : decode cX12_isLetter 9 = .ok (.if_icmp .gt 7, 3) := by decide +kernel
theorem dX12_isLetter_12 : decode cX12_isLetter 12 = .ok (.iconst 1, 1) := by decide +kernel
theorem dX12_isLetter_13 : decode cX12_isLetter 13 = .ok (.goto 4, 3) := by decide +kernel
theorem dX12_isLetter_16 : decode cX12_isLetter 16 = .ok (.iconst 0, 1) := by decide +kernel
theorem dX12_isLetter_17 : decode cX12_isLetter 17 = .ok (.ireturn, 1) := by decide +kernel
theorem dX12_more_0 : decode cX12_more 0 = .ok (.iload_n 2, 1) := by decide +kernel
theorem dX12_more_1 : decode cX12_more 1 = .ok (.ifCond .ne 7, 3) := by decide +kernel
theorem dX12_more_4 : decode cX12_more 4 = .ok (.lload_n 0, 1) := by decide +kernel
theorem dX12_more_5 : decode cX12_more 5 = .ok (.goto 16, 3) := by decide +kernel
theorem dX12_more_8 : decode cX12_more 8 = .ok (.ldc2_w 208, 3) := by decide +kernel
theorem dX12_more_11 : decode cX12_more 11 = .ok (.lload_n 0, 1) := by decide +kernel
theorem dX12_more_12 : decode cX12_more 12 = .ok (.lmul, 1) := by decide +kernel
theorem dX12_more_13 : decode cX12_more 13 = .ok (.iload_n 2, 1) := by decide +kernel
theorem dX12_more_14 : decode cX12_more 14 = .ok (.bipush 97, 2) := by decide +kernel
theorem dX12_more_16 : decode cX12_more 16 = .ok (.isub, 1) := by decide +kernel
theorem dX12_more_17 : decode cX12_more 17 = .ok (.iconst 1, 1) := by decide +kernel
theorem dX12_more_18 : decode cX12_more 18 = .ok (.iadd, 1) := by decide +kernel
theorem dX12_more_19 : decode cX12_more 19 = .ok (.i2l, 1) := by decide +kernel
theorem dX12_more_20 : decode cX12_more 20 = .ok (.ladd, 1) := by decide +kernel
theorem dX12_more_21 : decode cX12_more 21 = .ok (.lreturn, 1) := by decide +kernel
set_option maxRecDepth 20000 in
theorem ggX12_word_X12_more : GoodIn wsX12_word wsX12_more := goodIn_r _ [4, 5] (by decide +kernel) (by decide +kernel)
set_option maxRecDepth 20000 in
theorem gX12_word_X12_more : GoodIn wsX12_word (va_wsS RX12 210 yX12_more wsX12_more) := goodIn_app (goodIn_of _ (by decide +kernel)) ggX12_word_X12_more
theorem dX12_word_0 : decode cX12_word 0 = .ok (.lconst 0, 1) := by decide +kernel
theorem dX12_word_1 : decode cX12_word 1 = .ok (.iload_n 0, 1) := by decide +kernel
theorem dX12_word_2 : decode cX12_word 2 = .ok (.invokestatic 210, 3) := by decide +kernel
theorem dX12_word_5 : decode cX12_word 5 = .ok (.iload_n 1, 1) := by decide +kernel
theorem dX12_word_6 : decode cX12_word 6 = .ok (.invokestatic 210, 3) := by decide +kernel
theorem dX12_word_9 : decode cX12_word 9 = .ok (.iload_n 2, 1) := by decide +kernel
theorem dX12_word_10 : decode cX12_word 10 = .ok (.invokestatic 210, 3) := by decide +kernel
theorem dX12_word_13 : decode cX12_word 13 = .ok (.iload_n 3, 1) := by decide +kernel
theorem dX12_word_14 : decode cX12_word 14 = .ok (.invokestatic 210, 3) := by decide +kernel
theorem dX12_word_17 : decode cX12_word 17 = .ok (.iload 4, 2) := by decide +kernel
theorem dX12_word_19 : decode cX12_word 19 = .ok (.invokestatic 210, 3) := by decide +kernel
theorem dX12_word_22 : decode cX12_word 22 = .ok (.iload 5, 2) := by decide +kernel
theorem dX12_word_24 : decode cX12_word 24 = .ok (.invokestatic 210, 3) := by decide +kernel
theorem dX12_word_27 : decode cX12_word 27 = .ok (.iload 6, 2) := by decide +kernel
theorem dX12_word_29 : decode cX12_word 29 = .ok (.invokestatic 210, 3) := by decide +kernel
theorem dX12_word_32 : decode cX12_word 32 = .ok (.lreturn, 1) := by decide +kernel
theorem dX12_token_0 : decode cX12_token 0 = .ok (.aload_n 0, 1) := by decide +kernel
theorem dX12_token_1 : decode cX12_token 1 = .ok (.getfield 20, 3) := by decide +kernel
theorem dX12_token_4 : decode cX12_token 4 = .ok (.aload_n 0, 1) := by decide +kernel
theorem dX12_token_5 : decode cX12_token 5 = .ok (.getfield 214, 3) := by decide +kernel
theorem dX12_token_8 : decode cX12_token 8 = .ok (.iload_n 1, 1) := by decide +kernel
theorem dX12_token_9 : decode cX12_token 9 = .ok (.iastore, 1) := by decide +kernel
theorem dX12_token_10 : decode cX12_token 10 = .ok (.aload_n 0, 1) := by decide +kernel
theorem dX12_token_11 : decode cX12_token 11 = .ok (.getfield 24, 3) := by decide +kernel
theorem dX12_token_14 : decode cX12_token 14 = .ok (.aload_n 0, 1) := by decide +kernel
theorem dX12_token_15 : decode cX12_token 15 = .ok (.getfield 214, 3) := by decide +kernel
theorem dX12_token_18 : decode cX12_token 18 = .ok (.iload_n 2, 1) := by decide +kernel
theorem dX12_token_19 : decode cX12_token 19 = .ok (.iastore, 1) := by decide +kernel
theorem dX12_token_20 : decode cX12_token 20 = .ok (.aload_n 0, 1) := by decide +kernel
theorem dX12_token_21 : decode cX12_token 21 = .ok (.getfield 27, 3) := by decide +kernel
theorem dX12_token_24 : decode cX12_token 24 = .ok (.aload_n 0, 1) := by decide +kernel
theorem dX12_token_25 : decode cX12_token 25 = .ok (.getfield 214, 3) := by decide +kernel
theorem dX12_token_28 : decode cX12_token 28 = .ok (.iload_n 3, 1) := by decide +kernel
theorem dX12_token_29 : decode cX12_token 29 = .ok (.iastore, 1) := by decide +kernel
theorem dX12_token_30 : decode cX12_token 30 = .ok (.aload_n 0, 1) := by decide +kernel
theorem dX12_token_31 : decode cX12_token 31 = .ok (.getfield 30, 3) := by decide +kernel
theorem dX12_token_34 : decode cX12_token 34 = .ok (.aload_n 0, 1) := by decide +kernel
theorem dX12_token_35 : decode cX12_token 35 = .ok (.getfield 214, 3) := by decide +kernel
theorem dX12_token_38 : decode cX12_token 38 = .ok (.lload 4, 2) := by decide +kernel
theorem dX12_token_40 : decode cX12_token 40 = .ok (.lastore, 1) := by decide +kernel
theorem dX12_token_41 : decode cX12_token 41 = .ok (.aload_n 0, 1) := by decide +kernel
theorem dX12_token_42 : decode cX12_token 42 = .ok (.dup, 1) := by decide +kernel
theorem dX12_token_43 : decode cX12_token 43 = .ok (.getfield 214, 3) := by decide +kernel
theorem dX12_token_46 : decode cX12_token 46 = .ok (.iconst 1, 1) := by decide +kernel
theorem dX12_token_47 : decode cX12_token 47 = .ok (.iadd, 1) := by decide +kernel
theorem dX12_token_48 : decode cX12_token 48 = .ok (.putfield 214, 3) := by decide +kernel
theorem dX12_token_51 : decode cX12_token 51 = .ok (.return_, 1) := by decide +kernel
set_option maxRecDepth 20000 in
theorem ggX12_cut_X12_at : GoodIn wsX12_cut wsX12_at := goodIn_r _ [8, 2, 9, 32, 33, 34, 35, 36, 37, 38, 39, 40, 41, 42, 43, 44, 45, 46, 47, 48, 49, 50, 51, 52, 53, 54, 55, 56, 57, 58, 59, 60, 61, 62, 63, 64, 65, 66, 67, 68, 69, 70, 71, 72, 73, 74, 75, 76, 77, 78, 79, 80, 81, 82, 83, 84, 85, 86, 87, 88, 89, 90, 91, 92, 93, 94, 95, 96, 97, 98, 99, 100, 101, 102, 103, 104, 105, 106, 107, 108] (by decide +kernel) (by decide +kernel)
set_option maxRecDepth 20000 in
theorem gX12_cut_X12_at : GoodIn wsX12_cut (wsV RX12 217 RX12 yX12_at wsX12_at) := goodIn_app (goodIn_of _ (by decide +kernel)) ggX12_cut_X12_at
set_option maxRecDepth 20000 in
theorem ggX12_cut_X12_token : GoodIn wsX12_cut wsX12_token := goodIn_r _ [13, 14, 1, 15, 16, 17, 32, 33, 34, 35, 36, 37, 38, 39, 40, 41, 42, 43, 44, 45, 46, 47, 48, 49, 50, 51, 52, 53, 54, 55, 56, 57, 58, 59, 60, 61, 62, 63, 64, 65, 66, 67, 68, 69, 70, 71, 72, 73, 74, 75, 76, 77, 78, 79, 80, 81, 82, 83, 84, 85, 86, 87, 88, 89, 90, 91, 92, 93, 94, 95, 96, 97, 98, 99, 100, 101, 102, 103, 104, 105, 106, 107, 108] (by decide +kernel) (by decide +kernel)
set_option maxRecDepth 20000 in
theorem gX12_cut_X12_token : GoodIn wsX12_cut (wsV RX12 221 RX12 yX12_token wsX12_token) := goodIn_app (goodIn_of _ (by decide +kernel)) ggX12_cut_X12_token
set_option maxRecDepth 20000 in
theorem ggX12_cut_X12_isLetter : GoodIn wsX12_cut wsX12_isLetter := goodIn_r _ [20] (by decide +kernel) (by decide +kernel)
set_option maxRecDepth 20000 in
theorem gX12_cut_X12_isLetter : GoodIn wsX12_cut (va_wsS RX12 225 yX12_isLetter wsX12_isLetter) := goodIn_app (goodIn_of _ (by decide +kernel)) ggX12_cut_X12_isLetter
set_option maxRecDepth 20000 in
theorem ggX12_cut_X12_more : GoodIn wsX12_cut wsX12_more := goodIn_r _ [23, 24] (by decide +kernel) (by decide +kernel)
set_option maxRecDepth 20000 in
theorem gX12_cut_X12_more : GoodIn wsX12_cut (va_wsS RX12 210 yX12_more wsX12_more) := goodIn_app (goodIn_of _ (by decide +kernel)) ggX12_cut_X12_more
set_option maxRecDepth 20000 in
theorem ggX12_cut_X12_isDigit : GoodIn wsX12_cut wsX12_isDigit := goodIn_r _ [27] (by decide +kernel) (by decide +kernel)
set_option maxRecDepth 20000 in
theorem gX12_cut_X12_isDigit : GoodIn wsX12_cut (va_wsS RX12 229 yX12_isDigit wsX12_isDigit) := goodIn_app (goodIn_of _ (by decide +kernel)) ggX12_cut_X12_isDigit
set_option maxRecDepth 20000 in
theorem ggX12_cut_X12_sign : GoodIn wsX12_cut wsX12_sign := goodIn_r _ [31, 10, 11, 12, 7, 13, 14, 1, 15, 16, 17, 32, 33, 34, 35, 36, 37, 38, 39, 40, 41, 42, 43, 44, 45, 46, 47, 48, 49, 50, 51, 52, 53, 54, 55, 56, 57, 58, 59, 60, 61, 62, 63, 64, 65, 66, 67, 68, 69, 70, 71, 72, 73, 74, 75, 76, 77, 78, 79, 80, 81, 82, 83, 84, 85, 86, 87, 88, 89, 90, 91, 92, 93, 94, 95, 96, 97, 98, 99, 100, 101, 102, 103, 104, 105, 106, 107, 108] (by decide +kernel) (by decide +kernel)
set_option maxRecDepth 20000 in
theorem gX12_cut_X12_sign : GoodIn wsX12_cut (wsV RX12 232 RX12 yX12_sign wsX12_sign) := goodIn_app (goodIn_of _ (by decide +kernel)) ggX12_cut_X12_sign
theorem dX12_cut_0 : decode cX12_cut 0 = .ok (.aload_n 0, 1) := by decide +kernel
theorem dX12_cut_1 : decode cX12_cut 1 = .ok (.iconst 0, 1) := by decide +kernel
theorem dX12_cut_2 : decode cX12_cut 2 = .ok (.putfield 214, 3) := by decide +kernel
theorem dX12_cut_5 : decode cX12_cut 5 = .ok (.iconst 0, 1) := by decide +kernel
theorem dX12_cut_6 : decode cX12_cut 6 = .ok (.istore_n 1, 1) := by decide +kernel
theorem dX12_cut_7 : decode cX12_cut 7 = .ok (.aload_n 0, 1) := by decide +kernel
theorem dX12_cut_8 : decode cX12_cut 8 = .ok (.getfield 214, 3) := by decide +kernel
theorem dX12_cut_11 : decode cX12_cut 11 = .ok (.sipush 400, 3) := by decide +kernel
theorem dX12_cut_14 : decode cX12_cut 14 = .ok (.if_icmp .gt 280, 3) := by decide +kernel
theorem dX12_cut_17 : decode cX12_cut 17 = .ok (.aload_n 0, 1) := by decide +kernel
theorem dX12_cut_18 : decode cX12_cut 18 = .ok (.iload_n 1, 1) := by decide +kernel
theorem dX12_cut_19 : decode cX12_cut 19 = .ok (.invokevirtual 217, 3) := by decide +kernel
theorem dX12_cut_22 : decode cX12_cut 22 = .ok (.istore_n 2, 1) := by decide +kernel
theorem dX12_cut_23 : decode cX12_cut 23 = .ok (.iload_n 1, 1) := by decide +kernel
theorem dX12_cut_24 : decode cX12_cut 24 = .ok (.aload_n 0, 1) := by decide +kernel
theorem dX12_cut_25 : decode cX12_cut 25 = .ok (.getfield 205, 3) := by decide +kernel
theorem dX12_cut_28 : decode cX12_cut 28 = .ok (.if_icmp .lt 15, 3) := by decide +kernel
theorem dX12_cut_31 : decode cX12_cut 31 = .ok (.aload_n 0, 1) := by decide +kernel
theorem dX12_cut_32 : decode cX12_cut 32 = .ok (.iconst 0, 1) := by decide +kernel
theorem dX12_cut_33 : decode cX12_cut 33 = .ok (.aload_n 0, 1) := by decide +kernel
theorem dX12_cut_34 : decode cX12_cut 34 = .ok (.getfield 205, 3) := by decide +kernel
theorem dX12_cut_37 : decode cX12_cut 37 = .ok (.iconst 0, 1) := by decide +kernel
theorem dX12_cut_38 : decode cX12_cut 38 = .ok (.lconst 0, 1) := by decide +kernel
theorem dX12_cut_39 : decode cX12_cut 39 = .ok (.invokevirtual 221, 3) := by decide +kernel
theorem dX12_cut_42 : decode cX12_cut 42 = .ok (.return_, 1) := by decide +kernel
theorem dX12_cut_43 : decode cX12_cut 43 = .ok (.iload_n 2, 1) := by decide +kernel
theorem dX12_cut_44 : decode cX12_cut 44 = .ok (.bipush 9, 2) := by decide +kernel
theorem dX12_cut_46 : decode cX12_cut 46 = .ok (.if_icmp .eq 21, 3) := by decide +kernel
theorem dX12_cut_49 : decode cX12_cut 49 = .ok (.iload_n 2, 1) := by decide +kernel
theorem dX12_cut_50 : decode cX12_cut 50 = .ok (.bipush 10, 2) := by decide +kernel
theorem dX12_cut_52 : decode cX12_cut 52 = .ok (.if_icmp .eq 15, 3) := by decide +kernel
theorem dX12_cut_55 : decode cX12_cut 55 = .ok (.iload_n 2, 1) := by decide +kernel
theorem dX12_cut_56 : decode cX12_cut 56 = .ok (.bipush 13, 2) := by decide +kernel
theorem dX12_cut_58 : decode cX12_cut 58 = .ok (.if_icmp .eq 9, 3) := by decide +kernel
theorem dX12_cut_61 : decode cX12_cut 61 = .ok (.iload_n 2, 1) := by decide +kernel
theorem dX12_cut_62 : decode cX12_cut 62 = .ok (.bipush 32, 2) := by decide +kernel
theorem dX12_cut_64 : decode cX12_cut 64 = .ok (.if_icmp .ne 9, 3) := by decide +kernel
theorem dX12_cut_67 : decode cX12_cut 67 = .ok (.iinc 1 1, 3) := by decide +kernel
theorem dX12_cut_70 : decode cX12_cut 70 = .ok (.goto 221, 3) := by decide +kernel
theorem dX12_cut_73 : decode cX12_cut 73 = .ok (.iload_n 2, 1) := by decide +kernel
theorem dX12_cut_74 : decode cX12_cut 74 = .ok (.invokestatic 225, 3) := by decide +kernel
theorem dX12_cut_77 : decode cX12_cut 77 = .ok (.ifCond .eq 119, 3) := by decide +kernel
theorem dX12_cut_80 : decode cX12_cut 80 = .ok (.iconst 0, 1) := by decide +kernel
theorem dX12_cut_81 : decode cX12_cut 81 = .ok (.istore_n 3, 1) := by decide +kernel
theorem dX12_cut_82 : decode cX12_cut 82 = .ok (.lconst 0, 1) := by decide +kernel
theorem dX12_cut_83 : decode cX12_cut 83 = .ok (.lstore 4, 2) := by decide +kernel
theorem dX12_cut_85 : decode cX12_cut 85 = .ok (.aload_n 0, 1) := by decide +kernel
theorem dX12_cut_86 : decode cX12_cut 86 = .ok (.iload_n 1, 1) := by decide +kernel
theorem dX12_cut_87 : decode cX12_cut 87 = .ok (.iload_n 3, 1) := by decide +kernel
theorem dX12_cut_88 : decode cX12_cut 88 = .ok (.iadd, 1) := by decide +kernel
theorem dX12_cut_89 : decode cX12_cut 89 = .ok (.invokevirtual 217, 3) := by decide +kernel
theorem dX12_cut_92 : decode cX12_cut 92 = .ok (.invokestatic 225, 3) := by decide +kernel
theorem dX12_cut_95 : decode cX12_cut 95 = .ok (.ifCond .eq 29, 3) := by decide +kernel
theorem dX12_cut_98 : decode cX12_cut 98 = .ok (.iload_n 3, 1) := by decide +kernel
theorem dX12_cut_99 : decode cX12_cut 99 = .ok (.bipush 8, 2) := by decide +kernel
theorem dX12_cut_101 : decode cX12_cut 101 = .ok (.if_icmp .ge 17, 3) := by decide +kernel
theorem dX12_cut_104 : decode cX12_cut 104 = .ok (.lload 4, 2) := by decide +kernel
theorem dX12_cut_106 : decode cX12_cut 106 = .ok (.aload_n 0, 1) := by decide +kernel
theorem dX12_cut_107 : decode cX12_cut 107 = .ok (.iload_n 1, 1) := by decide +kernel
theorem dX12_cut_108 : decode cX12_cut 108 = .ok (.iload_n 3, 1) := by decide +kernel
theorem dX12_cut_109 : decode cX12_cut 109 = .ok (.iadd, 1) := by decide +kernel
theorem dX12_cut_110 : decode cX12_cut 110 = .ok (.invokevirtual 217, 3) := by decide +kernel
theorem dX12_cut_113 : decode cX12_cut 113 = .ok (.invokestatic 210, 3) := by decide +kernel
theorem dX12_cut_116 : decode cX12_cut 116 = .ok (.lstore 4, 2) := by decide +kernel
theorem dX12_cut_118 : decode cX12_cut 118 = .ok (.iinc 3 1, 3) := by decide +kernel
theorem dX12_cut_121 : decode cX12_cut 121 = .ok (.goto (-36), 3) := by decide +kernel
theorem dX12_cut_124 : decode cX12_cut 124 = .ok (.iload_n 3, 1) := by decide +kernel
theorem dX12_cut_125 : decode cX12_cut 125 = .ok (.bipush 8, 2) := by decide +kernel
theorem dX12_cut_127 : decode cX12_cut 127 = .ok (.if_icmp .le 7, 3) := by decide +kernel
theorem dX12_cut_130 : decode cX12_cut 130 = .ok (.iconst 3, 1) := by decide +kernel
theorem dX12_cut_131 : decode cX12_cut 131 = .ok (.goto 4, 3) := by decide +kernel
theorem dX12_cut_134 : decode cX12_cut 134 = .ok (.iconst 1, 1) := by decide +kernel
theorem dX12_cut_135 : decode cX12_cut 135 = .ok (.istore 6, 2) := by decide +kernel
theorem dX12_cut_137 : decode cX12_cut 137 = .ok (.iload_n 3, 1) := by decide +kernel
theorem dX12_cut_138 : decode cX12_cut 138 = .ok (.bipush 7, 2) := by decide +kernel
theorem dX12_cut_140 : decode cX12_cut 140 = .ok (.if_icmp .gt 39, 3) := by decide +kernel
theorem dX12_cut_143 : decode cX12_cut 143 = .ok (.iconst 0, 1) := by decide +kernel
theorem dX12_cut_144 : decode cX12_cut 144 = .ok (.istore 7, 2) := by decide +kernel
theorem dX12_cut_146 : decode cX12_cut 146 = .ok (.iload 7, 2) := by decide +kernel
theorem dX12_cut_148 : decode cX12_cut 148 = .ok (.bipush 16, 2) := by decide +kernel
theorem dX12_cut_150 : decode cX12_cut 150 = .ok (.if_icmp .ge 29, 3) := by decide +kernel
theorem dX12_cut_153 : decode cX12_cut 153 = .ok (.aload_n 0, 1) := by decide +kernel
theorem dX12_cut_154 : decode cX12_cut 154 = .ok (.getfield 34, 3) := by decide +kernel
theorem dX12_cut_157 : decode cX12_cut 157 = .ok (.iload 7, 2) := by decide +kernel
theorem dX12_cut_159 : decode cX12_cut 159 = .ok (.laload, 1) := by decide +kernel
theorem dX12_cut_160 : decode cX12_cut 160 = .ok (.lload 4, 2) := by decide +kernel
theorem dX12_cut_162 : decode cX12_cut 162 = .ok (.lcmp, 1) := by decide +kernel
theorem dX12_cut_163 : decode cX12_cut 163 = .ok (.ifCond .ne 10, 3) := by decide +kernel
theorem dX12_cut_166 : decode cX12_cut 166 = .ok (.bipush 20, 2) := by decide +kernel
theorem dX12_cut_168 : decode cX12_cut 168 = .ok (.iload 7, 2) := by decide +kernel
theorem dX12_cut_170 : decode cX12_cut 170 = .ok (.iadd, 1) := by decide +kernel
theorem dX12_cut_171 : decode cX12_cut 171 = .ok (.istore 6, 2) := by decide +kernel
theorem dX12_cut_173 : decode cX12_cut 173 = .ok (.iinc 7 1, 3) := by decide +kernel
theorem dX12_cut_176 : decode cX12_cut 176 = .ok (.goto (-30), 3) := by decide +kernel
theorem dX12_cut_179 : decode cX12_cut 179 = .ok (.aload_n 0, 1) := by decide +kernel
theorem dX12_cut_180 : decode cX12_cut 180 = .ok (.iload 6, 2) := by decide +kernel
theorem dX12_cut_182 : decode cX12_cut 182 = .ok (.iload_n 1, 1) := by decide +kernel
theorem dX12_cut_183 : decode cX12_cut 183 = .ok (.iconst 0, 1) := by decide +kernel
theorem dX12_cut_184 : decode cX12_cut 184 = .ok (.lload 4, 2) := by decide +kernel
theorem dX12_cut_186 : decode cX12_cut 186 = .ok (.invokevirtual 221, 3) := by decide +kernel
theorem dX12_cut_189 : decode cX12_cut 189 = .ok (.iload_n 1, 1) := by decide +kernel
theorem dX12_cut_190 : decode cX12_cut 190 = .ok (.iload_n 3, 1) := by decide +kernel
theorem dX12_cut_191 : decode cX12_cut 191 = .ok (.iadd, 1) := by decide +kernel
theorem dX12_cut_192 : decode cX12_cut 192 = .ok (.istore_n 1, 1) := by decide +kernel
theorem dX12_cut_193 : decode cX12_cut 193 = .ok (.goto 98, 3) := by decide +kernel
theorem dX12_cut_196 : decode cX12_cut 196 = .ok (.iload_n 2, 1) := by decide +kernel
theorem dX12_cut_197 : decode cX12_cut 197 = .ok (.invokestatic 229, 3) := by decide +kernel
theorem dX12_cut_200 : decode cX12_cut 200 = .ok (.ifCond .eq 75, 3) := by decide +kernel
theorem dX12_cut_203 : decode cX12_cut 203 = .ok (.iconst 0, 1) := by decide +kernel
theorem dX12_cut_204 : decode cX12_cut 204 = .ok (.istore_n 3, 1) := by decide +kernel
theorem dX12_cut_205 : decode cX12_cut 205 = .ok (.iconst 0, 1) := by decide +kernel
theorem dX12_cut_206 : decode cX12_cut 206 = .ok (.istore 4, 2) := by decide +kernel
theorem dX12_cut_208 : decode cX12_cut 208 = .ok (.aload_n 0, 1) := by decide +kernel
theorem dX12_cut_209 : decode cX12_cut 209 = .ok (.iload_n 1, 1) := by decide +kernel
theorem dX12_cut_210 : decode cX12_cut 210 = .ok (.iload_n 3, 1) := by decide +kernel
theorem dX12_cut_211 : decode cX12_cut 211 = .ok (.iadd, 1) := by decide +kernel
theorem dX12_cut_212 : decode cX12_cut 212 = .ok (.invokevirtual 217, 3) := by decide +kernel
theorem dX12_cut_215 : decode cX12_cut 215 = .ok (.invokestatic 229, 3) := by decide +kernel
theorem dX12_cut_218 : decode cX12_cut 218 = .ok (.ifCond .eq 32, 3) := by decide +kernel
theorem dX12_cut_221 : decode cX12_cut 221 = .ok (.iload_n 3, 1) := by decide +kernel
theorem dX12_cut_222 : decode cX12_cut 222 = .ok (.iconst 4, 1) := by decide +kernel
theorem dX12_cut_223 : decode cX12_cut 223 = .ok (.if_icmp .ge 21, 3) := by decide +kernel
theorem dX12_cut_226 : decode cX12_cut 226 = .ok (.bipush 10, 2) := by decide +kernel
theorem dX12_cut_228 : decode cX12_cut 228 = .ok (.iload 4, 2) := by decide +kernel
theorem dX12_cut_230 : decode cX12_cut 230 = .ok (.imul, 1) := by decide +kernel
theorem dX12_cut_231 : decode cX12_cut 231 = .ok (.aload_n 0, 1) := by decide +kernel
theorem dX12_cut_232 : decode cX12_cut 232 = .ok (.iload_n 1, 1) := by decide +kernel
theorem dX12_cut_233 : decode cX12_cut 233 = .ok (.iload_n 3, 1) := by decide +kernel
theorem dX12_cut_234 : decode cX12_cut 234 = .ok (.iadd, 1) := by decide +kernel
theorem dX12_cut_235 : decode cX12_cut 235 = .ok (.invokevirtual 217, 3) := by decide +kernel
theorem dX12_cut_238 : decode cX12_cut 238 = .ok (.iadd, 1) := by decide +kernel
theorem dX12_cut_239 : decode cX12_cut 239 = .ok (.bipush 48, 2) := by decide +kernel
theorem dX12_cut_241 : decode cX12_cut 241 = .ok (.isub, 1) := by decide +kernel
theorem dX12_cut_242 : decode cX12_cut 242 = .ok (.istore 4, 2) := by decide +kernel
theorem dX12_cut_244 : decode cX12_cut 244 = .ok (.iinc 3 1, 3) := by decide +kernel
theorem dX12_cut_247 : decode cX12_cut 247 = .ok (.goto (-39), 3) := by decide +kernel
theorem dX12_cut_250 : decode cX12_cut 250 = .ok (.aload_n 0, 1) := by decide +kernel
theorem dX12_cut_251 : decode cX12_cut 251 = .ok (.iload_n 3, 1) := by decide +kernel
theorem dX12_cut_252 : decode cX12_cut 252 = .ok (.iconst 4, 1) := by decide +kernel
theorem dX12_cut_253 : decode cX12_cut 253 = .ok (.if_icmp .le 7, 3) := by decide +kernel
theorem dX12_cut_256 : decode cX12_cut 256 = .ok (.iconst 3, 1) := by decide +kernel
theorem dX12_cut_257 : decode cX12_cut 257 = .ok (.goto 4, 3) := by decide +kernel
theorem dX12_cut_260 : decode cX12_cut 260 = .ok (.iconst 2, 1) := by decide +kernel
theorem dX12_cut_261 : decode cX12_cut 261 = .ok (.iload_n 1, 1) := by decide +kernel
theorem dX12_cut_262 : decode cX12_cut 262 = .ok (.iload 4, 2) := by decide +kernel
theorem dX12_cut_264 : decode cX12_cut 264 = .ok (.lconst 0, 1) := by decide +kernel
theorem dX12_cut_265 : decode cX12_cut 265 = .ok (.invokevirtual 221, 3) := by decide +kernel
theorem dX12_cut_268 : decode cX12_cut 268 = .ok (.iload_n 1, 1) := by decide +kernel
theorem dX12_cut_269 : decode cX12_cut 269 = .ok (.iload_n 3, 1) := by decide +kernel
theorem dX12_cut_270 : decode cX12_cut 270 = .ok (.iadd, 1) := by decide +kernel
theorem dX12_cut_271 : decode cX12_cut 271 = .ok (.istore_n 1, 1) := by decide +kernel
theorem dX12_cut_272 : decode cX12_cut 272 = .ok (.goto 19, 3) := by decide +kernel
theorem dX12_cut_275 : decode cX12_cut 275 = .ok (.iload_n 1, 1) := by decide +kernel
theorem dX12_cut_276 : decode cX12_cut 276 = .ok (.aload_n 0, 1) := by decide +kernel
theorem dX12_cut_277 : decode cX12_cut 277 = .ok (.iload_n 1, 1) := by decide +kernel
theorem dX12_cut_278 : decode cX12_cut 278 = .ok (.iload_n 2, 1) := by decide +kernel
theorem dX12_cut_279 : decode cX12_cut 279 = .ok (.aload_n 0, 1) := by decide +kernel
theorem dX12_cut_280 : decode cX12_cut 280 = .ok (.iload_n 1, 1) := by decide +kernel
theorem dX12_cut_281 : decode cX12_cut 281 = .ok (.iconst 1, 1) := by decide +kernel
theorem dX12_cut_282 : decode cX12_cut 282 = .ok (.iadd, 1) := by decide +kernel
theorem dX12_cut_283 : decode cX12_cut 283 = .ok (.invokevirtual 217, 3) := by decide +kernel
theorem dX12_cut_286 : decode cX12_cut 286 = .ok (.invokevirtual 232, 3) := by decide +kernel
theorem dX12_cut_289 : decode cX12_cut 289 = .ok (.iadd, 1) := by decide +kernel
theorem dX12_cut_290 : decode cX12_cut 290 = .ok (.istore_n 1, 1) := by decide +kernel
theorem dX12_cut_291 : decode cX12_cut 291 = .ok (.goto (-284), 3) := by decide +kernel
theorem dX12_cut_294 : decode cX12_cut 294 = .ok (.return_, 1) := by decide +kernel
set_option maxRecDepth 20000 in
theorem ggX12_sign_X12_token : GoodIn wsX12_sign wsX12_token := goodIn_r _ [5, 6, 7, 8, 9, 10, 11, 12, 13, 14, 15, 16, 17, 18, 19, 20, 21, 22, 23, 24, 25, 26, 27, 28, 29, 30, 31, 32, 33, 34, 35, 36, 37, 38, 39, 40, 41, 42, 43, 44, 45, 46, 47, 48, 49, 50, 51, 52, 53, 54, 55, 56, 57, 58, 59, 60, 61, 62, 63, 64, 65, 66, 67, 68, 69, 70, 71, 72, 73, 74, 75, 76, 77, 78, 79, 80, 81, 82, 83, 84, 85, 86, 87] (by decide +kernel) (by decide +kernel)
set_option maxRecDepth 20000 in
theorem gX12_sign_X12_token : GoodIn wsX12_sign (wsV RX12 221 RX12 yX12_token wsX12_token) := goodIn_app (goodIn_of _ (by decide +kernel)) ggX12_sign_X12_token
theorem dX12_sign_0 : decode cX12_sign 0 = .ok (.iload_n 3, 1) := by decide +kernel
theorem dX12_sign_1 : decode cX12_sign 1 = .ok (.bipush 61, 2) := by decide +kernel
theorem dX12_sign_3 : decode cX12_sign 3 = .ok (.if_icmp .eq 7, 3) := by decide +kernel
theorem dX12_sign_6 : decode cX12_sign 6 = .ok (.iconst 0, 1) := by decide +kernel
theorem dX12_sign_7 : decode cX12_sign 7 = .ok (.goto 37, 3) := by decide +kernel
theorem dX12_sign_10 : decode cX12_sign 10 = .ok (.iload_n 2, 1) := by decide +kernel
theorem dX12_sign_11 : decode cX12_sign 11 = .ok (.bipush 61, 2) := by decide +kernel
theorem dX12_sign_13 : decode cX12_sign 13 = .ok (.if_icmp .ne 8, 3) := by decide +kernel
theorem dX12_sign_16 : decode cX12_sign 16 = .ok (.bipush 11, 2) := by decide +kernel
theorem dX12_sign_18 : decode cX12_sign 18 = .ok (.goto 26, 3) := by decide +kernel
theorem dX12_sign_21 : decode cX12_sign 21 = .ok (.iload_n 2, 1) := by decide +kernel
theorem dX12_sign_22 : decode cX12_sign 22 = .ok (.bipush 33, 2) := by decide +kernel
theorem dX12_sign_24 : decode cX12_sign 24 = .ok (.if_icmp .ne 8, 3) := by decide +kernel
theorem dX12_sign_27 : decode cX12_sign 27 = .ok (.bipush 12, 2) := by decide +kernel
theorem dX12_sign_29 : decode cX12_sign 29 = .ok (.goto 15, 3) := by decide +kernel
theorem dX12_sign_32 : decode cX12_sign 32 = .ok (.iload_n 2, 1) := by decide +kernel
theorem dX12_sign_33 : decode cX12_sign 33 = .ok (.bipush 60, 2) := by decide +kernel
theorem dX12_sign_35 : decode cX12_sign 35 = .ok (.if_icmp .ne 8, 3) := by decide +kernel
theorem dX12_sign_38 : decode cX12_sign 38 = .ok (.bipush 14, 2) := by decide +kernel
theorem dX12_sign_40 : decode cX12_sign 40 = .ok (.goto 4, 3) := by decide +kernel
theorem dX12_sign_43 : decode cX12_sign 43 = .ok (.iconst 0, 1) := by decide +kernel
theorem dX12_sign_44 : decode cX12_sign 44 = .ok (.istore 4, 2) := by decide +kernel
theorem dX12_sign_46 : decode cX12_sign 46 = .ok (.iconst 3, 1) := by decide +kernel
theorem dX12_sign_47 : decode cX12_sign 47 = .ok (.istore 5, 2) := by decide +kernel
theorem dX12_sign_49 : decode cX12_sign 49 = .ok (.iload 4, 2) := by decide +kernel
theorem dX12_sign_51 : decode cX12_sign 51 = .ok (.ifCond .le 10, 3) := by decide +kernel
theorem dX12_sign_54 : decode cX12_sign 54 = .ok (.iload 4, 2) := by decide +kernel
theorem dX12_sign_56 : decode cX12_sign 56 = .ok (.istore 5, 2) := by decide +kernel
theorem dX12_sign_58 : decode cX12_sign 58 = .ok (.goto 90, 3) := by decide +kernel
theorem dX12_sign_61 : decode cX12_sign 61 = .ok (.iload_n 2, 1) := by decide +kernel
theorem dX12_sign_62 : decode cX12_sign 62 = .ok (.bipush 59, 2) := by decide +kernel
theorem dX12_sign_64 : decode cX12_sign 64 = .ok (.if_icmp .ne 9, 3) := by decide +kernel
theorem dX12_sign_67 : decode cX12_sign 67 = .ok (.iconst 4, 1) := by decide +kernel
theorem dX12_sign_68 : decode cX12_sign 68 = .ok (.istore 5, 2) := by decide +kernel
theorem dX12_sign_70 : decode cX12_sign 70 = .ok (.goto 78, 3) := by decide +kernel
theorem dX12_sign_73 : decode cX12_sign 73 = .ok (.iload_n 2, 1) := by decide +kernel
theorem dX12_sign_74 : decode cX12_sign 74 = .ok (.bipush 40, 2) := by decide +kernel
theorem dX12_sign_76 : decode cX12_sign 76 = .ok (.if_icmp .ne 10, 3) := by decide +kernel
theorem dX12_sign_79 : decode cX12_sign 79 = .ok (.bipush 6, 2) := by decide +kernel
theorem dX12_sign_81 : decode cX12_sign 81 = .ok (.istore 5, 2) := by decide +kernel
theorem dX12_sign_83 : decode cX12_sign 83 = .ok (.goto 65, 3) := by decide +kernel
theorem dX12_sign_86 : decode cX12_sign 86 = .ok (.iload_n 2, 1) := by decide +kernel
theorem dX12_sign_87 : decode cX12_sign 87 = .ok (.bipush 41, 2) := by decide +kernel
theorem dX12_sign_89 : decode cX12_sign 89 = .ok (.if_icmp .ne 10, 3) := by decide +kernel
theorem dX12_sign_92 : decode cX12_sign 92 = .ok (.bipush 7, 2) := by decide +kernel
theorem dX12_sign_94 : decode cX12_sign 94 = .ok (.istore 5, 2) := by decide +kernel
theorem dX12_sign_96 : decode cX12_sign 96 = .ok (.goto 52, 3) := by decide +kernel
theorem dX12_sign_99 : decode cX12_sign 99 = .ok (.iload_n 2, 1) := by decide +kernel
theorem dX12_sign_100 : decode cX12_sign 100 = .ok (.bipush 43, 2) := by decide +kernel
theorem dX12_sign_102 : decode cX12_sign 102 = .ok (.if_icmp .ne 10, 3) := by decide +kernel
theorem dX12_sign_105 : decode cX12_sign 105 = .ok (.bipush 8, 2) := by decide +kernel
theorem dX12_sign_107 : decode cX12_sign 107 = .ok (.istore 5, 2) := by decide +kernel
theorem dX12_sign_109 : decode cX12_sign 109 = .ok (.goto 39, 3) := by decide +kernel
theorem dX12_sign_112 : decode cX12_sign 112 = .ok (.iload_n 2, 1) := by decide +kernel
theorem dX12_sign_113 : decode cX12_sign 113 = .ok (.bipush 45, 2) := by decide +kernel
theorem dX12_sign_115 : decode cX12_sign 115 = .ok (.if_icmp .ne 10, 3) := by decide +kernel
theorem dX12_sign_118 : decode cX12_sign 118 = .ok (.bipush 9, 2) := by decide +kernel
theorem dX12_sign_120 : decode cX12_sign 120 = .ok (.istore 5, 2) := by decide +kernel
theorem dX12_sign_122 : decode cX12_sign 122 = .ok (.goto 26, 3) := by decide +kernel
theorem dX12_sign_125 : decode cX12_sign 125 = .ok (.iload_n 2, 1) := by decide +kernel
theorem dX12_sign_126 : decode cX12_sign 126 = .ok (.bipush 42, 2) := by decide +kernel
theorem dX12_sign_128 : decode cX12_sign 128 = .ok (.if_icmp .ne 10, 3) := by decide +kernel
theorem dX12_sign_131 : decode cX12_sign 131 = .ok (.bipush 10, 2) := by decide +kernel
theorem dX12_sign_133 : decode cX12_sign 133 = .ok (.istore 5, 2) := by decide +kernel
theorem dX12_sign_135 : decode cX12_sign 135 = .ok (.goto 13, 3) := by decide +kernel
theorem dX12_sign_138 : decode cX12_sign 138 = .ok (.iload_n 2, 1) := by decide +kernel
theorem dX12_sign_139 : decode cX12_sign 139 = .ok (.bipush 60, 2) := by decide +kernel
theorem dX12_sign_141 : decode cX12_sign 141 = .ok (.if_icmp .ne 7, 3) := by decide +kernel
theorem dX12_sign_144 : decode cX12_sign 144 = .ok (.bipush 13, 2) := by decide +kernel
theorem dX12_sign_146 : decode cX12_sign 146 = .ok (.istore 5, 2) := by decide +kernel
theorem dX12_sign_148 : decode cX12_sign 148 = .ok (.aload_n 0, 1) := by decide +kernel
theorem dX12_sign_149 : decode cX12_sign 149 = .ok (.iload 5, 2) := by decide +kernel
theorem dX12_sign_151 : decode cX12_sign 151 = .ok (.iload_n 1, 1) := by decide +kernel
theorem dX12_sign_152 : decode cX12_sign 152 = .ok (.iconst 0, 1) := by decide +kernel
theorem dX12_sign_153 : decode cX12_sign 153 = .ok (.lconst 0, 1) := by decide +kernel
theorem dX12_sign_154 : decode cX12_sign 154 = .ok (.invokevirtual 221, 3) := by decide +kernel
theorem dX12_sign_157 : decode cX12_sign 157 = .ok (.iload 4, 2) := by decide +kernel
theorem dX12_sign_159 : decode cX12_sign 159 = .ok (.ifCond .le 7, 3) := by decide +kernel
theorem dX12_sign_162 : decode cX12_sign 162 = .ok (.iconst 2, 1) := by decide +kernel
theorem dX12_sign_163 : decode cX12_sign 163 = .ok (.goto 4, 3) := by decide +kernel
theorem dX12_sign_166 : decode cX12_sign 166 = .ok (.iconst 1, 1) := by decide +kernel
theorem dX12_sign_167 : decode cX12_sign 167 = .ok (.ireturn, 1) := by decide +kernel
theorem dX12_is_0 : decode cX12_is 0 = .ok (.aload_n 0, 1) := by decide +kernel
theorem dX12_is_1 : decode cX12_is 1 = .ok (.getfield 236, 3) := by decide +kernel
theorem dX12_is_4 : decode cX12_is 4 = .ok (.ifCond .ne 20, 3) := by decide +kernel
theorem dX12_is_7 : decode cX12_is 7 = .ok (.aload_n 0, 1) := by decide +kernel
theorem dX12_is_8 : decode cX12_is 8 = .ok (.getfield 20, 3) := by decide +kernel
theorem dX12_is_11 : decode cX12_is 11 = .ok (.aload_n 0, 1) := by decide +kernel
theorem dX12_is_12 : decode cX12_is 12 = .ok (.getfield 239, 3) := by decide +kernel
theorem dX12_is_15 : decode cX12_is 15 = .ok (.iaload, 1) := by decide +kernel
theorem dX12_is_16 : decode cX12_is 16 = .ok (.iload_n 1, 1) := by decide +kernel
theorem dX12_is_17 : decode cX12_is 17 = .ok (.if_icmp .ne 7, 3) := by decide +kernel
theorem dX12_is_20 : decode cX12_is 20 = .ok (.iconst 1, 1) := by decide +kernel
theorem dX12_is_21 : decode cX12_is 21 = .ok (.goto 4, 3) := by decide +kernel
theorem dX12_is_24 : decode cX12_is 24 = .ok (.iconst 0, 1) := by decide +kernel
theorem dX12_is_25 : decode cX12_is 25 = .ok (.ireturn, 1) := by decide +kernel
theorem dX12_fail_0 : decode cX12_fail 0 = .ok (.aload_n 0, 1) := by decide +kernel
theorem dX12_fail_1 : decode cX12_fail 1 = .ok (.getfield 236, 3) := by decide +kernel
theorem dX12_fail_4 : decode cX12_fail 4 = .ok (.ifCond .le 4, 3) := by decide +kernel
theorem dX12_fail_7 : decode cX12_fail 7 = .ok (.return_, 1) := by decide +kernel
theorem dX12_fail_8 : decode cX12_fail 8 = .ok (.aload_n 0, 1) := by decide +kernel
theorem dX12_fail_9 : decode cX12_fail 9 = .ok (.iload_n 1, 1) := by decide +kernel
theorem dX12_fail_10 : decode cX12_fail 10 = .ok (.putfield 236, 3) := by decide +kernel
theorem dX12_fail_13 : decode cX12_fail 13 = .ok (.aload_n 0, 1) := by decide +kernel
theorem dX12_fail_14 : decode cX12_fail 14 = .ok (.aload_n 0, 1) := by decide +kernel
theorem dX12_fail_15 : decode cX12_fail 15 = .ok (.getfield 24, 3) := by decide +kernel
theorem dX12_fail_18 : decode cX12_fail 18 = .ok (.aload_n 0, 1) := by decide +kernel
theorem dX12_fail_19 : decode cX12_fail 19 = .ok (.getfield 239, 3) := by decide +kernel
theorem dX12_fail_22 : decode cX12_fail 22 = .ok (.iaload, 1) := by decide +kernel
theorem dX12_fail_23 : decode cX12_fail 23 = .ok (.putfield 242, 3) := by decide +kernel
theorem dX12_fail_26 : decode cX12_fail 26 = .ok (.return_, 1) := by decide +kernel
set_option maxRecDepth 20000 in
theorem ggX12_next_X12_fail : GoodIn wsX12_next wsX12_fail := goodIn_r _ [6, 7, 8, 1, 9, 10, 11, 12, 13, 14, 15, 16, 17, 18, 19, 20, 21, 22, 23, 24, 25, 26, 27, 28, 29, 30, 31, 32, 33, 34, 35, 36, 37, 38, 39, 40, 41, 42, 43, 44, 45, 46, 47, 48, 49, 50, 51, 52, 53, 54, 55, 56, 57, 58, 59, 60, 61, 62, 63, 64, 65, 66, 67, 68, 69, 70, 71, 72, 73, 74, 75, 76, 77, 78, 79, 80, 81, 82, 83, 84, 85, 86] (by decide +kernel) (by decide +kernel)
set_option maxRecDepth 20000 in
theorem gX12_next_X12_fail : GoodIn wsX12_next (wsV RX12 251 RX12 yX12_fail wsX12_fail) := goodIn_app (goodIn_of _ (by decide +kernel)) ggX12_next_X12_fail
theorem dX12_next_0 : decode cX12_next 0 = .ok (.aload_n 0, 1) := by decide +kernel
theorem dX12_next_1 : decode cX12_next 1 = .ok (.getfield 239, 3) := by decide +kernel
theorem dX12_next_4 : decode cX12_next 4 = .ok (.sipush 400, 3) := by decide +kernel
theorem dX12_next_7 : decode cX12_next 7 = .ok (.if_icmp .ne 11, 3) := by decide +kernel
theorem dX12_next_10 : decode cX12_next 10 = .ok (.aload_n 0, 1) := by decide +kernel
theorem dX12_next_11 : decode cX12_next 11 = .ok (.iconst 2, 1) := by decide +kernel
theorem dX12_next_12 : decode cX12_next 12 = .ok (.invokevirtual 251, 3) := by decide +kernel
theorem dX12_next_15 : decode cX12_next 15 = .ok (.goto 13, 3) := by decide +kernel
theorem dX12_next_18 : decode cX12_next 18 = .ok (.aload_n 0, 1) := by decide +kernel
theorem dX12_next_19 : decode cX12_next 19 = .ok (.dup, 1) := by decide +kernel
theorem dX12_next_20 : decode cX12_next 20 = .ok (.getfield 239, 3) := by decide +kernel
theorem dX12_next_23 : decode cX12_next 23 = .ok (.iconst 1, 1) := by decide +kernel
theorem dX12_next_24 : decode cX12_next 24 = .ok (.iadd, 1) := by decide +kernel
theorem dX12_next_25 : decode cX12_next 25 = .ok (.putfield 239, 3) := by decide +kernel
theorem dX12_next_28 : decode cX12_next 28 = .ok (.return_, 1) := by decide +kernel
set_option maxRecDepth 20000 in
theorem ggX12_must_X12_is : GoodIn wsX12_must wsX12_is := goodIn_r _ [5, 6, 7, 8, 19, 20, 21, 22, 23, 24, 25, 26, 27, 28, 29, 30, 31, 32, 33, 34, 35, 36, 37, 38, 39, 40, 41, 42, 43, 44, 45, 46, 47, 48, 49, 50, 51, 52, 53, 54, 55, 56, 57, 58, 59, 60, 61, 62, 63, 64, 65, 66, 67, 68, 69, 70, 71, 72, 73, 74, 75, 76, 77, 78, 79, 80, 81, 82, 83, 84, 85, 86, 87, 88, 89, 90, 91, 92, 93, 94, 95] (by decide +kernel) (by decide +kernel)
set_option maxRecDepth 20000 in
theorem gX12_must_X12_is : GoodIn wsX12_must (wsV RX12 254 RX12 yX12_is wsX12_is) := goodIn_app (goodIn_of _ (by decide +kernel)) ggX12_must_X12_is
set_option maxRecDepth 20000 in
theorem ggX12_must_X12_next : GoodIn wsX12_must wsX12_next := goodIn_r _ [12, 8, 13, 14, 15, 4, 16, 6, 17, 18, 19, 20, 21, 22, 23, 24, 25, 26, 27, 28, 29, 30, 31, 32, 33, 34, 35, 36, 37, 38, 39, 40, 41, 42, 43, 44, 45, 46, 47, 48, 49, 50, 51, 52, 53, 54, 55, 56, 57, 58, 59, 60, 61, 62, 63, 64, 65, 66, 67, 68, 69, 70, 71, 72, 73, 74, 75, 76, 77, 78, 79, 80, 81, 82, 83, 84, 85, 86, 87, 88, 89, 90, 91, 92, 93, 94, 95] (by decide +kernel) (by decide +kernel)
set_option maxRecDepth 20000 in
theorem gX12_must_X12_next : GoodIn wsX12_must (wsV RX12 257 RX12 yX12_next wsX12_next) := goodIn_app (goodIn_of _ (by decide +kernel)) ggX12_must_X12_next
set_option maxRecDepth 20000 in
theorem ggX12_must_X12_fail : GoodIn wsX12_must wsX12_fail := goodIn_r _ [16, 6, 17, 8, 18, 19, 20, 21, 22, 23, 24, 25, 26, 27, 28, 29, 30, 31, 32, 33, 34, 35, 36, 37, 38, 39, 40, 41, 42, 43, 44, 45, 46, 47, 48, 49, 50, 51, 52, 53, 54, 55, 56, 57, 58, 59, 60, 61, 62, 63, 64, 65, 66, 67, 68, 69, 70, 71, 72, 73, 74, 75, 76, 77, 78, 79, 80, 81, 82, 83, 84, 85, 86, 87, 88, 89, 90, 91, 92, 93, 94, 95] (by decide +kernel) (by decide +kernel)
set_option maxRecDepth 20000 in
theorem gX12_must_X12_fail : GoodIn wsX12_must (wsV RX12 251 RX12 yX12_fail wsX12_fail) := goodIn_app (goodIn_of _ (by decide +kernel)) ggX12_must_X12_fail
theorem dX12_must_0 : decode cX12_must 0 = .ok (.aload_n 0, 1) := by decide +kernel
theorem dX12_must_1 : decode cX12_must 1 = .ok (.iload_n 1, 1) := by decide +kernel
theorem dX12_must_2 : decode cX12_must 2 = .ok (.invokevirtual 254, 3) := by decide +kernel
theorem dX12_must_5 : decode cX12_must 5 = .ok (.ifCond .eq 10, 3) := by decide +kernel
theorem dX12_must_8 : decode cX12_must 8 = .ok (.aload_n 0, 1) := by decide +kernel
theorem dX12_must_9 : decode cX12_must 9 = .ok (.invokevirtual 257, 3) := by decide +kernel
theorem dX12_must_12 : decode cX12_must 12 = .ok (.goto 8, 3) := by decide +kernel
theorem dX12_must_15 : decode cX12_must 15 = .ok (.aload_n 0, 1) := by decide +kernel
theorem dX12_must_16 : decode cX12_must 16 = .ok (.iconst 1, 1) := by decide +kernel
theorem dX12_must_17 : decode cX12_must 17 = .ok (.invokevirtual 251, 3) := by decide +kernel
theorem dX12_must_20 : decode cX12_must 20 = .ok (.return_, 1) := by decide +kernel
set_option maxRecDepth 20000 in
theorem ggX12_read_X12_cut : GoodIn wsX12_read wsX12_cut := goodIn_r _ [20, 21, 2, 22, 23, 24, 25, 19, 26, 3, 27, 28, 29, 30, 31, 32, 33, 34, 35, 36, 37, 38, 39, 40, 41, 42, 43, 44, 45, 46, 47, 48, 105, 106, 107, 108, 109, 110, 111, 112, 113, 114, 115, 116, 117, 118, 119, 120, 121, 122, 123, 124, 125, 126, 127, 128, 129, 130, 131, 132, 133, 134, 135, 136, 137, 138, 139, 140, 141, 142, 143, 144, 145, 146, 147, 148, 149, 150, 151, 152, 153, 154, 155, 156, 157, 158, 159, 160, 161, 162, 163, 164, 165, 166, 167, 168, 169, 170, 171, 172, 173, 174, 175, 176, 177, 178, 179, 180, 181] (by decide +kernel) (by decide +kernel)
set_option maxRecDepth 20000 in
theorem gX12_read_X12_cut : GoodIn wsX12_read (wsV RX12 260 RX12 yX12_cut wsX12_cut) := goodIn_app (goodIn_of _ (by decide +kernel)) ggX12_read_X12_cut
set_option maxRecDepth 20000 in
theorem ggX12_read_X12_is : GoodIn wsX12_read wsX12_is := goodIn_r _ [52, 7, 31, 5, 105, 106, 107, 108, 109, 110, 111, 112, 113, 114, 115, 116, 117, 118, 119, 120, 121, 122, 123, 124, 125, 126, 127, 128, 129, 130, 131, 132, 133, 134, 135, 136, 137, 138, 139, 140, 141, 142, 143, 144, 145, 146, 147, 148, 149, 150, 151, 152, 153, 154, 155, 156, 157, 158, 159, 160, 161, 162, 163, 164, 165, 166, 167, 168, 169, 170, 171, 172, 173, 174, 175, 176, 177, 178, 179, 180, 181] (by decide +kernel) (by decide +kernel)
set_option maxRecDepth 20000 in
theorem gX12_read_X12_is : GoodIn wsX12_read (wsV RX12 254 RX12 yX12_is wsX12_is) := goodIn_app (goodIn_of _ (by decide +kernel)) ggX12_read_X12_is
set_option maxRecDepth 20000 in
theorem ggX12_read_X12_tellRule : GoodIn wsX12_read wsX12_tellRule := goodIn_r _ [56, 11, 10, 7, 57, 58, 59, 60, 13, 61, 62, 12, 63, 49, 50, 51, 19, 52, 31, 5, 64, 65, 66, 67, 32, 14, 68, 69, 70, 71, 72, 73, 74, 75, 33, 76, 77, 78, 79, 80, 81, 82, 83, 84, 6, 85, 86, 87, 88, 89, 90, 91, 92, 93, 94, 95, 96, 97, 98, 99, 100, 101, 102, 103, 104, 105, 106, 107, 108, 109, 110, 111, 112, 113, 114, 115, 116, 117, 118, 119, 120, 121, 122, 123, 124, 125, 126, 127, 128, 129, 130, 131, 132, 133, 134, 135, 136, 137, 138, 139, 140, 141, 142, 143, 144, 145, 146, 147, 148, 149, 150, 151, 152, 153, 154, 155, 156, 157, 158, 159, 160, 161, 162, 163, 164, 165, 166, 167, 168, 169, 170, 171, 172, 173, 174, 175, 176, 177, 178, 179, 180, 181] (by decide +kernel) (by decide +kernel)
set_option maxRecDepth 20000 in
theorem gX12_read_X12_tellRule : GoodIn wsX12_read (wsV RX12 275 RX12 yX12_tellRule wsX12_tellRule) := goodIn_app (goodIn_of _ (by decide +kernel)) ggX12_read_X12_tellRule
theorem dX12_read_0 : decode cX12_read 0 = .ok (.aload_n 0, 1) := by decide +kernel
theorem dX12_read_1 : decode cX12_read 1 = .ok (.aload_n 0, 1) := by decide +kernel
theorem dX12_read_2 : decode cX12_read 2 = .ok (.getfield 198, 3) := by decide +kernel
theorem dX12_read_5 : decode cX12_read 5 = .ok (.putfield 205, 3) := by decide +kernel
theorem dX12_read_8 : decode cX12_read 8 = .ok (.iconst 0, 1) := by decide +kernel
theorem dX12_read_9 : decode cX12_read 9 = .ok (.istore_n 1, 1) := by decide +kernel
theorem dX12_read_10 : decode cX12_read 10 = .ok (.iload_n 1, 1) := by decide +kernel
theorem dX12_read_11 : decode cX12_read 11 = .ok (.aload_n 0, 1) := by decide +kernel
theorem dX12_read_12 : decode cX12_read 12 = .ok (.getfield 205, 3) := by decide +kernel
theorem dX12_read_15 : decode cX12_read 15 = .ok (.if_icmp .ge 21, 3) := by decide +kernel
theorem dX12_read_18 : decode cX12_read 18 = .ok (.aload_n 0, 1) := by decide +kernel
theorem dX12_read_19 : decode cX12_read 19 = .ok (.getfield 17, 3) := by decide +kernel
theorem dX12_read_22 : decode cX12_read 22 = .ok (.iload_n 1, 1) := by decide +kernel
theorem dX12_read_23 : decode cX12_read 23 = .ok (.aload_n 0, 1) := by decide +kernel
theorem dX12_read_24 : decode cX12_read 24 = .ok (.getfield 13, 3) := by decide +kernel
theorem dX12_read_27 : decode cX12_read 27 = .ok (.iload_n 1, 1) := by decide +kernel
theorem dX12_read_28 : decode cX12_read 28 = .ok (.baload, 1) := by decide +kernel
theorem dX12_read_29 : decode cX12_read 29 = .ok (.bastore, 1) := by decide +kernel
theorem dX12_read_30 : decode cX12_read 30 = .ok (.iinc 1 1, 3) := by decide +kernel
theorem dX12_read_33 : decode cX12_read 33 = .ok (.goto (-23), 3) := by decide +kernel
theorem dX12_read_36 : decode cX12_read 36 = .ok (.aload_n 0, 1) := by decide +kernel
theorem dX12_read_37 : decode cX12_read 37 = .ok (.iconst 0, 1) := by decide +kernel
theorem dX12_read_38 : decode cX12_read 38 = .ok (.putfield 198, 3) := by decide +kernel
theorem dX12_read_41 : decode cX12_read 41 = .ok (.aload_n 0, 1) := by decide +kernel
theorem dX12_read_42 : decode cX12_read 42 = .ok (.invokevirtual 260, 3) := by decide +kernel
theorem dX12_read_45 : decode cX12_read 45 = .ok (.aload_n 0, 1) := by decide +kernel
theorem dX12_read_46 : decode cX12_read 46 = .ok (.iconst 0, 1) := by decide +kernel
theorem dX12_read_47 : decode cX12_read 47 = .ok (.putfield 239, 3) := by decide +kernel
theorem dX12_read_50 : decode cX12_read 50 = .ok (.aload_n 0, 1) := by decide +kernel
theorem dX12_read_51 : decode cX12_read 51 = .ok (.iconst 0, 1) := by decide +kernel
theorem dX12_read_52 : decode cX12_read 52 = .ok (.putfield 263, 3) := by decide +kernel
theorem dX12_read_55 : decode cX12_read 55 = .ok (.aload_n 0, 1) := by decide +kernel
theorem dX12_read_56 : decode cX12_read 56 = .ok (.iconst 0, 1) := by decide +kernel
theorem dX12_read_57 : decode cX12_read 57 = .ok (.putfield 236, 3) := by decide +kernel
theorem dX12_read_60 : decode cX12_read 60 = .ok (.aload_n 0, 1) := by decide +kernel
theorem dX12_read_61 : decode cX12_read 61 = .ok (.iconst 0, 1) := by decide +kernel
theorem dX12_read_62 : decode cX12_read 62 = .ok (.putfield 245, 3) := by decide +kernel
theorem dX12_read_65 : decode cX12_read 65 = .ok (.aload_n 0, 1) := by decide +kernel
theorem dX12_read_66 : decode cX12_read 66 = .ok (.iconst 1, 1) := by decide +kernel
theorem dX12_read_67 : decode cX12_read 67 = .ok (.aload_n 0, 1) := by decide +kernel
theorem dX12_read_68 : decode cX12_read 68 = .ok (.getfield 266, 3) := by decide +kernel
theorem dX12_read_71 : decode cX12_read 71 = .ok (.isub, 1) := by decide +kernel
theorem dX12_read_72 : decode cX12_read 72 = .ok (.putfield 269, 3) := by decide +kernel
theorem dX12_read_75 : decode cX12_read 75 = .ok (.aload_n 0, 1) := by decide +kernel
theorem dX12_read_76 : decode cX12_read 76 = .ok (.getfield 40, 3) := by decide +kernel
theorem dX12_read_79 : decode cX12_read 79 = .ok (.aload_n 0, 1) := by decide +kernel
theorem dX12_read_80 : decode cX12_read 80 = .ok (.getfield 269, 3) := by decide +kernel
theorem dX12_read_83 : decode cX12_read 83 = .ok (.iconst 0, 1) := by decide +kernel
theorem dX12_read_84 : decode cX12_read 84 = .ok (.iastore, 1) := by decide +kernel
theorem dX12_read_85 : decode cX12_read 85 = .ok (.aload_n 0, 1) := by decide +kernel
theorem dX12_read_86 : decode cX12_read 86 = .ok (.getfield 64, 3) := by decide +kernel
theorem dX12_read_89 : decode cX12_read 89 = .ok (.aload_n 0, 1) := by decide +kernel
theorem dX12_read_90 : decode cX12_read 90 = .ok (.getfield 269, 3) := by decide +kernel
theorem dX12_read_93 : decode cX12_read 93 = .ok (.iconst 0, 1) := by decide +kernel
theorem dX12_read_94 : decode cX12_read 94 = .ok (.iastore, 1) := by decide +kernel
theorem dX12_read_95 : decode cX12_read 95 = .ok (.aload_n 0, 1) := by decide +kernel
theorem dX12_read_96 : decode cX12_read 96 = .ok (.sipush 500, 3) := by decide +kernel
theorem dX12_read_99 : decode cX12_read 99 = .ok (.aload_n 0, 1) := by decide +kernel
theorem dX12_read_100 : decode cX12_read 100 = .ok (.getfield 269, 3) := by decide +kernel
theorem dX12_read_103 : decode cX12_read 103 = .ok (.imul, 1) := by decide +kernel
theorem dX12_read_104 : decode cX12_read 104 = .ok (.putfield 272, 3) := by decide +kernel
theorem dX12_read_107 : decode cX12_read 107 = .ok (.aload_n 0, 1) := by decide +kernel
theorem dX12_read_108 : decode cX12_read 108 = .ok (.getfield 236, 3) := by decide +kernel
theorem dX12_read_111 : decode cX12_read 111 = .ok (.ifCond .ne 18, 3) := by decide +kernel
theorem dX12_read_114 : decode cX12_read 114 = .ok (.aload_n 0, 1) := by decide +kernel
theorem dX12_read_115 : decode cX12_read 115 = .ok (.iconst 0, 1) := by decide +kernel
theorem dX12_read_116 : decode cX12_read 116 = .ok (.invokevirtual 254, 3) := by decide +kernel
theorem dX12_read_119 : decode cX12_read 119 = .ok (.ifCond .ne 10, 3) := by decide +kernel
theorem dX12_read_122 : decode cX12_read 122 = .ok (.aload_n 0, 1) := by decide +kernel
theorem dX12_read_123 : decode cX12_read 123 = .ok (.invokevirtual 275, 3) := by decide +kernel
theorem dX12_read_126 : decode cX12_read 126 = .ok (.goto (-19), 3) := by decide +kernel
theorem dX12_read_129 : decode cX12_read 129 = .ok (.aload_n 0, 1) := by decide +kernel
theorem dX12_read_130 : decode cX12_read 130 = .ok (.aload_n 0, 1) := by decide +kernel
theorem dX12_read_131 : decode cX12_read 131 = .ok (.getfield 236, 3) := by decide +kernel
theorem dX12_read_134 : decode cX12_read 134 = .ok (.ifCond .le 10, 3) := by decide +kernel
theorem dX12_read_137 : decode cX12_read 137 = .ok (.aload_n 0, 1) := by decide +kernel
theorem dX12_read_138 : decode cX12_read 138 = .ok (.getfield 242, 3) := by decide +kernel
theorem dX12_read_141 : decode cX12_read 141 = .ok (.goto 4, 3) := by decide +kernel
theorem dX12_read_144 : decode cX12_read 144 = .ok (.iconst (-1), 1) := by decide +kernel
theorem dX12_read_145 : decode cX12_read 145 = .ok (.putfield 37, 3) := by decide +kernel
theorem dX12_read_148 : decode cX12_read 148 = .ok (.aload_n 0, 1) := by decide +kernel
theorem dX12_read_149 : decode cX12_read 149 = .ok (.getfield 236, 3) := by decide +kernel
theorem dX12_read_152 : decode cX12_read 152 = .ok (.ifCond .le 8, 3) := by decide +kernel
theorem dX12_read_155 : decode cX12_read 155 = .ok (.aload_n 0, 1) := by decide +kernel
theorem dX12_read_156 : decode cX12_read 156 = .ok (.getfield 236, 3) := by decide +kernel
theorem dX12_read_159 : decode cX12_read 159 = .ok (.ireturn, 1) := by decide +kernel
theorem dX12_read_160 : decode cX12_read 160 = .ok (.aload_n 0, 1) := by decide +kernel
theorem dX12_read_161 : decode cX12_read 161 = .ok (.aload_n 0, 1) := by decide +kernel
theorem dX12_read_162 : decode cX12_read 162 = .ok (.getfield 269, 3) := by decide +kernel
theorem dX12_read_165 : decode cX12_read 165 = .ok (.putfield 266, 3) := by decide +kernel
theorem dX12_read_168 : decode cX12_read 168 = .ok (.iconst 0, 1) := by decide +kernel
theorem dX12_read_169 : decode cX12_read 169 = .ok (.ireturn, 1) := by decide +kernel
theorem dX12_place_0 : decode cX12_place 0 = .ok (.aload_n 0, 1) := by decide +kernel
theorem dX12_place_1 : decode cX12_place 1 = .ok (.getfield 37, 3) := by decide +kernel
theorem dX12_place_4 : decode cX12_place 4 = .ok (.ireturn, 1) := by decide +kernel
set_option maxRecDepth 20000 in
theorem ggX12_number_X12_is : GoodIn wsX12_number wsX12_is := goodIn_r _ [7, 8, 9, 2, 24, 25, 26, 27, 28, 29, 30, 31, 32, 33, 34, 35, 36, 37, 38, 39, 40, 41, 42, 43, 44, 45, 46, 47, 48, 49, 50, 51, 52, 53, 54, 55, 56, 57, 58, 59, 60, 61, 62, 63, 64, 65, 66, 67, 68, 69, 70, 71, 72, 73, 74, 75, 76, 77, 78, 79, 80, 81, 82, 83, 84, 85, 86, 87, 88, 89, 90, 91, 92, 93, 94, 95, 96, 97, 98, 99, 100] (by decide +kernel) (by decide +kernel)
set_option maxRecDepth 20000 in
theorem gX12_number_X12_is : GoodIn wsX12_number (wsV RX12 254 RX12 yX12_is wsX12_is) := goodIn_app (goodIn_of _ (by decide +kernel)) ggX12_number_X12_is
set_option maxRecDepth 20000 in
theorem ggX12_number_X12_must : GoodIn wsX12_number wsX12_must := goodIn_r _ [13, 3, 4, 5, 6, 7, 8, 9, 2, 14, 15, 16, 17, 18, 19, 20, 21, 22, 23, 24, 25, 26, 27, 28, 29, 30, 31, 32, 33, 34, 35, 36, 37, 38, 39, 40, 41, 42, 43, 44, 45, 46, 47, 48, 49, 50, 51, 52, 53, 54, 55, 56, 57, 58, 59, 60, 61, 62, 63, 64, 65, 66, 67, 68, 69, 70, 71, 72, 73, 74, 75, 76, 77, 78, 79, 80, 81, 82, 83, 84, 85, 86, 87, 88, 89, 90, 91, 92, 93, 94, 95, 96, 97, 98, 99, 100] (by decide +kernel) (by decide +kernel)
set_option maxRecDepth 20000 in
theorem gX12_number_X12_must : GoodIn wsX12_number (wsV RX12 278 RX12 yX12_must wsX12_must) := goodIn_app (goodIn_of _ (by decide +kernel)) ggX12_number_X12_must
theorem dX12_number_0 : decode cX12_number 0 = .ok (.aload_n 0, 1) := by decide +kernel
theorem dX12_number_1 : decode cX12_number 1 = .ok (.iconst 2, 1) := by decide +kernel
theorem dX12_number_2 : decode cX12_number 2 = .ok (.invokevirtual 254, 3) := by decide +kernel
theorem dX12_number_5 : decode cX12_number 5 = .ok (.ifCond .eq 15, 3) := by decide +kernel
theorem dX12_number_8 : decode cX12_number 8 = .ok (.aload_n 0, 1) := by decide +kernel
theorem dX12_number_9 : decode cX12_number 9 = .ok (.getfield 27, 3) := by decide +kernel
theorem dX12_number_12 : decode cX12_number 12 = .ok (.aload_n 0, 1) := by decide +kernel
theorem dX12_number_13 : decode cX12_number 13 = .ok (.getfield 239, 3) := by decide +kernel
theorem dX12_number_16 : decode cX12_number 16 = .ok (.iaload, 1) := by decide +kernel
theorem dX12_number_17 : decode cX12_number 17 = .ok (.goto 4, 3) := by decide +kernel
theorem dX12_number_20 : decode cX12_number 20 = .ok (.iconst 0, 1) := by decide +kernel
theorem dX12_number_21 : decode cX12_number 21 = .ok (.istore_n 1, 1) := by decide +kernel
theorem dX12_number_22 : decode cX12_number 22 = .ok (.aload_n 0, 1) := by decide +kernel
theorem dX12_number_23 : decode cX12_number 23 = .ok (.iconst 2, 1) := by decide +kernel
theorem dX12_number_24 : decode cX12_number 24 = .ok (.invokevirtual 278, 3) := by decide +kernel
theorem dX12_number_27 : decode cX12_number 27 = .ok (.iload_n 1, 1) := by decide +kernel
theorem dX12_number_28 : decode cX12_number 28 = .ok (.ireturn, 1) := by decide +kernel
set_option maxRecDepth 20000 in
theorem ggX12_tellRule_X12_is : GoodIn wsX12_tellRule wsX12_is := goodIn_r _ [17, 3, 18, 19, 65, 66, 67, 68, 69, 70, 71, 72, 73, 74, 75, 76, 77, 78, 79, 80, 81, 82, 83, 84, 85, 86, 87, 88, 89, 90, 91, 92, 93, 94, 95, 96, 97, 98, 99, 100, 101, 102, 103, 104, 105, 106, 107, 108, 109, 110, 111, 112, 113, 114, 115, 116, 117, 118, 119, 120, 121, 122, 123, 124, 125, 126, 127, 128, 129, 130, 131, 132, 133, 134, 135, 136, 137, 138, 139, 140, 141] (by decide +kernel) (by decide +kernel)
set_option maxRecDepth 20000 in
theorem gX12_tellRule_X12_is : GoodIn wsX12_tellRule (wsV RX12 254 RX12 yX12_is wsX12_is) := goodIn_app (goodIn_of _ (by decide +kernel)) ggX12_tellRule_X12_is
set_option maxRecDepth 20000 in
theorem ggX12_tellRule_X12_fail : GoodIn wsX12_tellRule wsX12_fail := goodIn_r _ [23, 3, 24, 19, 25, 65, 66, 67, 68, 69, 70, 71, 72, 73, 74, 75, 76, 77, 78, 79, 80, 81, 82, 83, 84, 85, 86, 87, 88, 89, 90, 91, 92, 93, 94, 95, 96, 97, 98, 99, 100, 101, 102, 103, 104, 105, 106, 107, 108, 109, 110, 111, 112, 113, 114, 115, 116, 117, 118, 119, 120, 121, 122, 123, 124, 125, 126, 127, 128, 129, 130, 131, 132, 133, 134, 135, 136, 137, 138, 139, 140, 141] (by decide +kernel) (by decide +kernel)
set_option maxRecDepth 20000 in
theorem gX12_tellRule_X12_fail : GoodIn wsX12_tellRule (wsV RX12 251 RX12 yX12_fail wsX12_fail) := goodIn_app (goodIn_of _ (by decide +kernel)) ggX12_tellRule_X12_fail
set_option maxRecDepth 20000 in
theorem ggX12_tellRule_X12_next : GoodIn wsX12_tellRule wsX12_next := goodIn_r _ [29, 19, 20, 21, 22, 16, 23, 3, 24, 25, 65, 66, 67, 68, 69, 70, 71, 72, 73, 74, 75, 76, 77, 78, 79, 80, 81, 82, 83, 84, 85, 86, 87, 88, 89, 90, 91, 92, 93, 94, 95, 96, 97, 98, 99, 100, 101, 102, 103, 104, 105, 106, 107, 108, 109, 110, 111, 112, 113, 114, 115, 116, 117, 118, 119, 120, 121, 122, 123, 124, 125, 126, 127, 128, 129, 130, 131, 132, 133, 134, 135, 136, 137, 138, 139, 140, 141] (by decide +kernel) (by decide +kernel)
set_option maxRecDepth 20000 in
theorem gX12_tellRule_X12_next : GoodIn wsX12_tellRule (wsV RX12 257 RX12 yX12_next wsX12_next) := goodIn_app (goodIn_of _ (by decide +kernel)) ggX12_tellRule_X12_next
set_option maxRecDepth 20000 in
theorem ggX12_tellRule_X12_number : GoodIn wsX12_tellRule wsX12_number := goodIn_r _ [33, 34, 19, 13, 14, 15, 16, 17, 3, 18, 35, 36, 37, 38, 26, 27, 28, 29, 20, 21, 22, 23, 24, 25, 65, 66, 67, 68, 69, 70, 71, 72, 73, 74, 75, 76, 77, 78, 79, 80, 81, 82, 83, 84, 85, 86, 87, 88, 89, 90, 91, 92, 93, 94, 95, 96, 97, 98, 99, 100, 101, 102, 103, 104, 105, 106, 107, 108, 109, 110, 111, 112, 113, 114, 115, 116, 117, 118, 119, 120, 121, 122, 123, 124, 125, 126, 127, 128, 129, 130, 131, 132, 133, 134, 135, 136, 137, 138, 139, 140, 141] (by decide +kernel) (by decide +kernel)
set_option maxRecDepth 20000 in
theorem gX12_tellRule_X12_number : GoodIn wsX12_tellRule (wsV RX12 281 RX12 yX12_number wsX12_number) := goodIn_app (goodIn_of _ (by decide +kernel)) ggX12_tellRule_X12_number
set_option maxRecDepth 20000 in
theorem ggX12_tellRule_X12_must : GoodIn wsX12_tellRule wsX12_must := goodIn_r _ [38, 13, 14, 15, 16, 17, 3, 18, 19, 26, 27, 28, 29, 20, 21, 22, 23, 24, 25, 65, 66, 67, 68, 69, 70, 71, 72, 73, 74, 75, 76, 77, 78, 79, 80, 81, 82, 83, 84, 85, 86, 87, 88, 89, 90, 91, 92, 93, 94, 95, 96, 97, 98, 99, 100, 101, 102, 103, 104, 105, 106, 107, 108, 109, 110, 111, 112, 113, 114, 115, 116, 117, 118, 119, 120, 121, 122, 123, 124, 125, 126, 127, 128, 129, 130, 131, 132, 133, 134, 135, 136, 137, 138, 139, 140, 141] (by decide +kernel) (by decide +kernel)
set_option maxRecDepth 20000 in
theorem gX12_tellRule_X12_must : GoodIn wsX12_tellRule (wsV RX12 278 RX12 yX12_must wsX12_must) := goodIn_app (goodIn_of _ (by decide +kernel)) ggX12_tellRule_X12_must
set_option maxRecDepth 20000 in
theorem ggX12_tellRule_X12_expression : GoodIn wsX12_tellRule wsX12_expression := goodIn_r _ [42, 43, 44, 3, 45, 18, 19, 34, 13, 14, 15, 16, 17, 20, 21, 22, 23, 24, 25, 26, 27, 28, 29, 46, 47, 48, 49, 50, 8, 51, 52, 53, 54, 55, 65, 66, 67, 68, 69, 70, 71, 72, 73, 74, 75, 76, 77, 78, 79, 80, 81, 82, 83, 84, 85, 86, 87, 88, 89, 90, 91, 92, 93, 94, 95, 96, 97, 98, 99, 100, 101, 102, 103, 104, 105, 106, 107, 108, 109, 110, 111, 112, 113, 114, 115, 116, 117, 118, 119, 120, 121, 122, 123, 124, 125, 126, 127, 128, 129, 130, 131, 132, 133, 134, 135, 136, 137, 138, 139, 140, 141] (by decide +kernel) (by decide +kernel)
set_option maxRecDepth 20000 in
theorem gX12_tellRule_X12_expression : GoodIn wsX12_tellRule (wsV RX12 285 RX12 yX12_expression wsX12_expression) := goodIn_app (goodIn_of _ (by decide +kernel)) ggX12_tellRule_X12_expression
set_option maxRecDepth 20000 in
theorem ggX12_tellRule_X12_relation : GoodIn wsX12_tellRule wsX12_relation := goodIn_r _ [59, 8, 3, 18, 19, 2, 11, 60, 61, 62, 63, 64, 39, 40, 41, 16, 42, 43, 44, 45, 34, 13, 14, 15, 17, 20, 21, 22, 23, 24, 25, 26, 27, 28, 29, 46, 47, 48, 49, 50, 51, 52, 53, 54, 55, 65, 66, 67, 68, 69, 70, 71, 72, 73, 74, 75, 76, 77, 78, 79, 80, 81, 82, 83, 84, 85, 86, 87, 88, 89, 90, 91, 92, 93, 94, 95, 96, 97, 98, 99, 100, 101, 102, 103, 104, 105, 106, 107, 108, 109, 110, 111, 112, 113, 114, 115, 116, 117, 118, 119, 120, 121, 122, 123, 124, 125, 126, 127, 128, 129, 130, 131, 132, 133, 134, 135, 136, 137, 138, 139, 140, 141] (by decide +kernel) (by decide +kernel)
set_option maxRecDepth 20000 in
theorem gX12_tellRule_X12_relation : GoodIn wsX12_tellRule (wsV RX12 288 RX12 yX12_relation wsX12_relation) := goodIn_app (goodIn_of _ (by decide +kernel)) ggX12_tellRule_X12_relation
theorem dX12_tellRule_0 : decode cX12_tellRule 0 = .ok (.aload_n 0, 1) := by decide +kernel
theorem dX12_tellRule_1 : decode cX12_tellRule 1 = .ok (.bipush 20, 2) := by decide +kernel
theorem dX12_tellRule_3 : decode cX12_tellRule 3 = .ok (.invokevirtual 254, 3) := by decide +kernel
theorem dX12_tellRule_6 : decode cX12_tellRule 6 = .ok (.ifCond .ne 30, 3) := by decide +kernel
theorem dX12_tellRule_9 : decode cX12_tellRule 9 = .ok (.aload_n 0, 1) := by decide +kernel
theorem dX12_tellRule_10 : decode cX12_tellRule 10 = .ok (.bipush 31, 2) := by decide +kernel
theorem dX12_tellRule_12 : decode cX12_tellRule 12 = .ok (.invokevirtual 254, 3) := by decide +kernel
theorem dX12_tellRule_15 : decode cX12_tellRule 15 = .ok (.ifCond .ne 21, 3) := by decide +kernel
theorem dX12_tellRule_18 : decode cX12_tellRule 18 = .ok (.aload_n 0, 1) := by decide +kernel
theorem dX12_tellRule_19 : decode cX12_tellRule 19 = .ok (.bipush 22, 2) := by decide +kernel
theorem dX12_tellRule_21 : decode cX12_tellRule 21 = .ok (.invokevirtual 254, 3) := by decide +kernel
theorem dX12_tellRule_24 : decode cX12_tellRule 24 = .ok (.ifCond .ne 12, 3) := by decide +kernel
theorem dX12_tellRule_27 : decode cX12_tellRule 27 = .ok (.aload_n 0, 1) := by decide +kernel
theorem dX12_tellRule_28 : decode cX12_tellRule 28 = .ok (.bipush 23, 2) := by decide +kernel
theorem dX12_tellRule_30 : decode cX12_tellRule 30 = .ok (.invokevirtual 254, 3) := by decide +kernel
theorem dX12_tellRule_33 : decode cX12_tellRule 33 = .ok (.ifCond .eq 7, 3) := by decide +kernel
theorem dX12_tellRule_36 : decode cX12_tellRule 36 = .ok (.iconst 1, 1) := by decide +kernel
theorem dX12_tellRule_37 : decode cX12_tellRule 37 = .ok (.goto 4, 3) := by decide +kernel
theorem dX12_tellRule_40 : decode cX12_tellRule 40 = .ok (.iconst 0, 1) := by decide +kernel
theorem dX12_tellRule_41 : decode cX12_tellRule 41 = .ok (.istore_n 1, 1) := by decide +kernel
theorem dX12_tellRule_42 : decode cX12_tellRule 42 = .ok (.iload_n 1, 1) := by decide +kernel
theorem dX12_tellRule_43 : decode cX12_tellRule 43 = .ok (.ifCond .ne 11, 3) := by decide +kernel
theorem dX12_tellRule_46 : decode cX12_tellRule 46 = .ok (.aload_n 0, 1) := by decide +kernel
theorem dX12_tellRule_47 : decode cX12_tellRule 47 = .ok (.iconst 1, 1) := by decide +kernel
theorem dX12_tellRule_48 : decode cX12_tellRule 48 = .ok (.invokevirtual 251, 3) := by decide +kernel
theorem dX12_tellRule_51 : decode cX12_tellRule 51 = .ok (.goto 22, 3) := by decide +kernel
theorem dX12_tellRule_54 : decode cX12_tellRule 54 = .ok (.aload_n 0, 1) := by decide +kernel
theorem dX12_tellRule_55 : decode cX12_tellRule 55 = .ok (.getfield 40, 3) := by decide +kernel
theorem dX12_tellRule_58 : decode cX12_tellRule 58 = .ok (.aload_n 0, 1) := by decide +kernel
theorem dX12_tellRule_59 : decode cX12_tellRule 59 = .ok (.getfield 269, 3) := by decide +kernel
theorem dX12_tellRule_62 : decode cX12_tellRule 62 = .ok (.iaload, 1) := by decide +kernel
theorem dX12_tellRule_63 : decode cX12_tellRule 63 = .ok (.bipush 16, 2) := by decide +kernel
theorem dX12_tellRule_65 : decode cX12_tellRule 65 = .ok (.if_icmp .ne 8, 3) := by decide +kernel
theorem dX12_tellRule_68 : decode cX12_tellRule 68 = .ok (.aload_n 0, 1) := by decide +kernel
theorem dX12_tellRule_69 : decode cX12_tellRule 69 = .ok (.iconst 2, 1) := by decide +kernel
theorem dX12_tellRule_70 : decode cX12_tellRule 70 = .ok (.invokevirtual 251, 3) := by decide +kernel
theorem dX12_tellRule_73 : decode cX12_tellRule 73 = .ok (.aload_n 0, 1) := by decide +kernel
theorem dX12_tellRule_74 : decode cX12_tellRule 74 = .ok (.getfield 236, 3) := by decide +kernel
theorem dX12_tellRule_77 : decode cX12_tellRule 77 = .ok (.ifCond .le 4, 3) := by decide +kernel
theorem dX12_tellRule_80 : decode cX12_tellRule 80 = .ok (.return_, 1) := by decide +kernel
theorem dX12_tellRule_81 : decode cX12_tellRule 81 = .ok (.bipush 16, 2) := by decide +kernel
theorem dX12_tellRule_83 : decode cX12_tellRule 83 = .ok (.aload_n 0, 1) := by decide +kernel
theorem dX12_tellRule_84 : decode cX12_tellRule 84 = .ok (.getfield 269, 3) := by decide +kernel
theorem dX12_tellRule_87 : decode cX12_tellRule 87 = .ok (.imul, 1) := by decide +kernel
theorem dX12_tellRule_88 : decode cX12_tellRule 88 = .ok (.aload_n 0, 1) := by decide +kernel
theorem dX12_tellRule_89 : decode cX12_tellRule 89 = .ok (.getfield 40, 3) := by decide +kernel
theorem dX12_tellRule_92 : decode cX12_tellRule 92 = .ok (.aload_n 0, 1) := by decide +kernel
theorem dX12_tellRule_93 : decode cX12_tellRule 93 = .ok (.getfield 269, 3) := by decide +kernel
theorem dX12_tellRule_96 : decode cX12_tellRule 96 = .ok (.iaload, 1) := by decide +kernel
theorem dX12_tellRule_97 : decode cX12_tellRule 97 = .ok (.iadd, 1) := by decide +kernel
theorem dX12_tellRule_98 : decode cX12_tellRule 98 = .ok (.istore_n 2, 1) := by decide +kernel
theorem dX12_tellRule_99 : decode cX12_tellRule 99 = .ok (.aload_n 0, 1) := by decide +kernel
theorem dX12_tellRule_100 : decode cX12_tellRule 100 = .ok (.getfield 43, 3) := by decide +kernel
theorem dX12_tellRule_103 : decode cX12_tellRule 103 = .ok (.iload_n 2, 1) := by decide +kernel
theorem dX12_tellRule_104 : decode cX12_tellRule 104 = .ok (.aload_n 0, 1) := by decide +kernel
theorem dX12_tellRule_105 : decode cX12_tellRule 105 = .ok (.bipush 20, 2) := by decide +kernel
theorem dX12_tellRule_107 : decode cX12_tellRule 107 = .ok (.invokevirtual 254, 3) := by decide +kernel
theorem dX12_tellRule_110 : decode cX12_tellRule 110 = .ok (.ifCond .eq 7, 3) := by decide +kernel
theorem dX12_tellRule_113 : decode cX12_tellRule 113 = .ok (.iconst 0, 1) := by decide +kernel
theorem dX12_tellRule_114 : decode cX12_tellRule 114 = .ok (.goto 30, 3) := by decide +kernel
theorem dX12_tellRule_117 : decode cX12_tellRule 117 = .ok (.aload_n 0, 1) := by decide +kernel
theorem dX12_tellRule_118 : decode cX12_tellRule 118 = .ok (.bipush 31, 2) := by decide +kernel
theorem dX12_tellRule_120 : decode cX12_tellRule 120 = .ok (.invokevirtual 254, 3) := by decide +kernel
theorem dX12_tellRule_123 : decode cX12_tellRule 123 = .ok (.ifCond .eq 7, 3) := by decide +kernel
theorem dX12_tellRule_126 : decode cX12_tellRule 126 = .ok (.iconst 1, 1) := by decide +kernel
theorem dX12_tellRule_127 : decode cX12_tellRule 127 = .ok (.goto 17, 3) := by decide +kernel
theorem dX12_tellRule_130 : decode cX12_tellRule 130 = .ok (.aload_n 0, 1) := by decide +kernel
theorem dX12_tellRule_131 : decode cX12_tellRule 131 = .ok (.bipush 22, 2) := by decide +kernel
theorem dX12_tellRule_133 : decode cX12_tellRule 133 = .ok (.invokevirtual 254, 3) := by decide +kernel
theorem dX12_tellRule_136 : decode cX12_tellRule 136 = .ok (.ifCond .eq 7, 3) := by decide +kernel
theorem dX12_tellRule_139 : decode cX12_tellRule 139 = .ok (.iconst 2, 1) := by decide +kernel
theorem dX12_tellRule_140 : decode cX12_tellRule 140 = .ok (.goto 4, 3) := by decide +kernel
theorem dX12_tellRule_143 : decode cX12_tellRule 143 = .ok (.iconst 3, 1) := by decide +kernel
theorem dX12_tellRule_144 : decode cX12_tellRule 144 = .ok (.iastore, 1) := by decide +kernel
theorem dX12_tellRule_145 : decode cX12_tellRule 145 = .ok (.aload_n 0, 1) := by decide +kernel
theorem dX12_tellRule_146 : decode cX12_tellRule 146 = .ok (.getfield 46, 3) := by decide +kernel
theorem dX12_tellRule_149 : decode cX12_tellRule 149 = .ok (.iload_n 2, 1) := by decide +kernel
theorem dX12_tellRule_150 : decode cX12_tellRule 150 = .ok (.iconst 0, 1) := by decide +kernel
theorem dX12_tellRule_151 : decode cX12_tellRule 151 = .ok (.iastore, 1) := by decide +kernel
theorem dX12_tellRule_152 : decode cX12_tellRule 152 = .ok (.aload_n 0, 1) := by decide +kernel
theorem dX12_tellRule_153 : decode cX12_tellRule 153 = .ok (.getfield 49, 3) := by decide +kernel
theorem dX12_tellRule_156 : decode cX12_tellRule 156 = .ok (.iload_n 2, 1) := by decide +kernel
theorem dX12_tellRule_157 : decode cX12_tellRule 157 = .ok (.iconst 0, 1) := by decide +kernel
theorem dX12_tellRule_158 : decode cX12_tellRule 158 = .ok (.iastore, 1) := by decide +kernel
theorem dX12_tellRule_159 : decode cX12_tellRule 159 = .ok (.aload_n 0, 1) := by decide +kernel
theorem dX12_tellRule_160 : decode cX12_tellRule 160 = .ok (.invokevirtual 257, 3) := by decide +kernel
theorem dX12_tellRule_163 : decode cX12_tellRule 163 = .ok (.aload_n 0, 1) := by decide +kernel
theorem dX12_tellRule_164 : decode cX12_tellRule 164 = .ok (.getfield 52, 3) := by decide +kernel
theorem dX12_tellRule_167 : decode cX12_tellRule 167 = .ok (.iload_n 2, 1) := by decide +kernel
theorem dX12_tellRule_168 : decode cX12_tellRule 168 = .ok (.aload_n 0, 1) := by decide +kernel
theorem dX12_tellRule_169 : decode cX12_tellRule 169 = .ok (.getfield 272, 3) := by decide +kernel
theorem dX12_tellRule_172 : decode cX12_tellRule 172 = .ok (.iastore, 1) := by decide +kernel
theorem dX12_tellRule_173 : decode cX12_tellRule 173 = .ok (.aload_n 0, 1) := by decide +kernel
theorem dX12_tellRule_174 : decode cX12_tellRule 174 = .ok (.getfield 43, 3) := by decide +kernel
theorem dX12_tellRule_177 : decode cX12_tellRule 177 = .ok (.iload_n 2, 1) := by decide +kernel
theorem dX12_tellRule_178 : decode cX12_tellRule 178 = .ok (.iaload, 1) := by decide +kernel
theorem dX12_tellRule_179 : decode cX12_tellRule 179 = .ok (.iconst 1, 1) := by decide +kernel
theorem dX12_tellRule_180 : decode cX12_tellRule 180 = .ok (.if_icmp .eq 13, 3) := by decide +kernel
theorem dX12_tellRule_183 : decode cX12_tellRule 183 = .ok (.aload_n 0, 1) := by decide +kernel
theorem dX12_tellRule_184 : decode cX12_tellRule 184 = .ok (.getfield 43, 3) := by decide +kernel
theorem dX12_tellRule_187 : decode cX12_tellRule 187 = .ok (.iload_n 2, 1) := by decide +kernel
theorem dX12_tellRule_188 : decode cX12_tellRule 188 = .ok (.iaload, 1) := by decide +kernel
theorem dX12_tellRule_189 : decode cX12_tellRule 189 = .ok (.iconst 3, 1) := by decide +kernel
theorem dX12_tellRule_190 : decode cX12_tellRule 190 = .ok (.if_icmp .ne 13, 3) := by decide +kernel
theorem dX12_tellRule_193 : decode cX12_tellRule 193 = .ok (.aload_n 0, 1) := by decide +kernel
theorem dX12_tellRule_194 : decode cX12_tellRule 194 = .ok (.getfield 46, 3) := by decide +kernel
theorem dX12_tellRule_197 : decode cX12_tellRule 197 = .ok (.iload_n 2, 1) := by decide +kernel
theorem dX12_tellRule_198 : decode cX12_tellRule 198 = .ok (.aload_n 0, 1) := by decide +kernel
theorem dX12_tellRule_199 : decode cX12_tellRule 199 = .ok (.invokevirtual 281, 3) := by decide +kernel
theorem dX12_tellRule_202 : decode cX12_tellRule 202 = .ok (.iastore, 1) := by decide +kernel
theorem dX12_tellRule_203 : decode cX12_tellRule 203 = .ok (.aload_n 0, 1) := by decide +kernel
theorem dX12_tellRule_204 : decode cX12_tellRule 204 = .ok (.getfield 43, 3) := by decide +kernel
theorem dX12_tellRule_207 : decode cX12_tellRule 207 = .ok (.iload_n 2, 1) := by decide +kernel
theorem dX12_tellRule_208 : decode cX12_tellRule 208 = .ok (.iaload, 1) := by decide +kernel
theorem dX12_tellRule_209 : decode cX12_tellRule 209 = .ok (.iconst 3, 1) := by decide +kernel
theorem dX12_tellRule_210 : decode cX12_tellRule 210 = .ok (.if_icmp .ne 19, 3) := by decide +kernel
theorem dX12_tellRule_213 : decode cX12_tellRule 213 = .ok (.aload_n 0, 1) := by decide +kernel
theorem dX12_tellRule_214 : decode cX12_tellRule 214 = .ok (.bipush 24, 2) := by decide +kernel
theorem dX12_tellRule_216 : decode cX12_tellRule 216 = .ok (.invokevirtual 278, 3) := by decide +kernel
theorem dX12_tellRule_219 : decode cX12_tellRule 219 = .ok (.aload_n 0, 1) := by decide +kernel
theorem dX12_tellRule_220 : decode cX12_tellRule 220 = .ok (.getfield 49, 3) := by decide +kernel
theorem dX12_tellRule_223 : decode cX12_tellRule 223 = .ok (.iload_n 2, 1) := by decide +kernel
theorem dX12_tellRule_224 : decode cX12_tellRule 224 = .ok (.aload_n 0, 1) := by decide +kernel
theorem dX12_tellRule_225 : decode cX12_tellRule 225 = .ok (.invokevirtual 281, 3) := by decide +kernel
theorem dX12_tellRule_228 : decode cX12_tellRule 228 = .ok (.iastore, 1) := by decide +kernel
theorem dX12_tellRule_229 : decode cX12_tellRule 229 = .ok (.aload_n 0, 1) := by decide +kernel
theorem dX12_tellRule_230 : decode cX12_tellRule 230 = .ok (.getfield 43, 3) := by decide +kernel
theorem dX12_tellRule_233 : decode cX12_tellRule 233 = .ok (.iload_n 2, 1) := by decide +kernel
theorem dX12_tellRule_234 : decode cX12_tellRule 234 = .ok (.iaload, 1) := by decide +kernel
theorem dX12_tellRule_235 : decode cX12_tellRule 235 = .ok (.iconst 2, 1) := by decide +kernel
theorem dX12_tellRule_236 : decode cX12_tellRule 236 = .ok (.if_icmp .ne 7, 3) := by decide +kernel
theorem dX12_tellRule_239 : decode cX12_tellRule 239 = .ok (.aload_n 0, 1) := by decide +kernel
theorem dX12_tellRule_240 : decode cX12_tellRule 240 = .ok (.invokevirtual 285, 3) := by decide +kernel
theorem dX12_tellRule_243 : decode cX12_tellRule 243 = .ok (.aload_n 0, 1) := by decide +kernel
theorem dX12_tellRule_244 : decode cX12_tellRule 244 = .ok (.getfield 55, 3) := by decide +kernel
theorem dX12_tellRule_247 : decode cX12_tellRule 247 = .ok (.iload_n 2, 1) := by decide +kernel
theorem dX12_tellRule_248 : decode cX12_tellRule 248 = .ok (.aload_n 0, 1) := by decide +kernel
theorem dX12_tellRule_249 : decode cX12_tellRule 249 = .ok (.getfield 272, 3) := by decide +kernel
theorem dX12_tellRule_252 : decode cX12_tellRule 252 = .ok (.iastore, 1) := by decide +kernel
theorem dX12_tellRule_253 : decode cX12_tellRule 253 = .ok (.aload_n 0, 1) := by decide +kernel
theorem dX12_tellRule_254 : decode cX12_tellRule 254 = .ok (.getfield 58, 3) := by decide +kernel
theorem dX12_tellRule_257 : decode cX12_tellRule 257 = .ok (.iload_n 2, 1) := by decide +kernel
theorem dX12_tellRule_258 : decode cX12_tellRule 258 = .ok (.aload_n 0, 1) := by decide +kernel
theorem dX12_tellRule_259 : decode cX12_tellRule 259 = .ok (.getfield 64, 3) := by decide +kernel
theorem dX12_tellRule_262 : decode cX12_tellRule 262 = .ok (.aload_n 0, 1) := by decide +kernel
theorem dX12_tellRule_263 : decode cX12_tellRule 263 = .ok (.getfield 269, 3) := by decide +kernel
theorem dX12_tellRule_266 : decode cX12_tellRule 266 = .ok (.iaload, 1) := by decide +kernel
theorem dX12_tellRule_267 : decode cX12_tellRule 267 = .ok (.iastore, 1) := by decide +kernel
theorem dX12_tellRule_268 : decode cX12_tellRule 268 = .ok (.aload_n 0, 1) := by decide +kernel
theorem dX12_tellRule_269 : decode cX12_tellRule 269 = .ok (.getfield 43, 3) := by decide +kernel
theorem dX12_tellRule_272 : decode cX12_tellRule 272 = .ok (.iload_n 2, 1) := by decide +kernel
theorem dX12_tellRule_273 : decode cX12_tellRule 273 = .ok (.iaload, 1) := by decide +kernel
theorem dX12_tellRule_274 : decode cX12_tellRule 274 = .ok (.iconst 2, 1) := by decide +kernel
theorem dX12_tellRule_275 : decode cX12_tellRule 275 = .ok (.if_icmp .lt 22, 3) := by decide +kernel
theorem dX12_tellRule_278 : decode cX12_tellRule 278 = .ok (.aload_n 0, 1) := by decide +kernel
theorem dX12_tellRule_279 : decode cX12_tellRule 279 = .ok (.getfield 43, 3) := by decide +kernel
theorem dX12_tellRule_282 : decode cX12_tellRule 282 = .ok (.iload_n 2, 1) := by decide +kernel
theorem dX12_tellRule_283 : decode cX12_tellRule 283 = .ok (.iaload, 1) := by decide +kernel
theorem dX12_tellRule_284 : decode cX12_tellRule 284 = .ok (.iconst 2, 1) := by decide +kernel
theorem dX12_tellRule_285 : decode cX12_tellRule 285 = .ok (.if_icmp .ne 16, 3) := by decide +kernel
theorem dX12_tellRule_288 : decode cX12_tellRule 288 = .ok (.aload_n 0, 1) := by decide +kernel
theorem dX12_tellRule_289 : decode cX12_tellRule 289 = .ok (.bipush 21, 2) := by decide +kernel
theorem dX12_tellRule_291 : decode cX12_tellRule 291 = .ok (.invokevirtual 254, 3) := by decide +kernel
theorem dX12_tellRule_294 : decode cX12_tellRule 294 = .ok (.ifCond .eq 7, 3) := by decide +kernel
theorem dX12_tellRule_297 : decode cX12_tellRule 297 = .ok (.iconst 1, 1) := by decide +kernel
theorem dX12_tellRule_298 : decode cX12_tellRule 298 = .ok (.goto 4, 3) := by decide +kernel
theorem dX12_tellRule_301 : decode cX12_tellRule 301 = .ok (.iconst 0, 1) := by decide +kernel
theorem dX12_tellRule_302 : decode cX12_tellRule 302 = .ok (.istore_n 3, 1) := by decide +kernel
theorem dX12_tellRule_303 : decode cX12_tellRule 303 = .ok (.iload_n 3, 1) := by decide +kernel
theorem dX12_tellRule_304 : decode cX12_tellRule 304 = .ok (.ifCond .eq 9, 3) := by decide +kernel
theorem dX12_tellRule_307 : decode cX12_tellRule 307 = .ok (.aload_n 0, 1) := by decide +kernel
theorem dX12_tellRule_308 : decode cX12_tellRule 308 = .ok (.bipush 21, 2) := by decide +kernel
theorem dX12_tellRule_310 : decode cX12_tellRule 310 = .ok (.invokevirtual 278, 3) := by decide +kernel
theorem dX12_tellRule_313 : decode cX12_tellRule 313 = .ok (.iconst 1, 1) := by decide +kernel
theorem dX12_tellRule_314 : decode cX12_tellRule 314 = .ok (.istore 4, 2) := by decide +kernel
theorem dX12_tellRule_316 : decode cX12_tellRule 316 = .ok (.iload_n 3, 1) := by decide +kernel
theorem dX12_tellRule_317 : decode cX12_tellRule 317 = .ok (.ifCond .eq 55, 3) := by decide +kernel
theorem dX12_tellRule_320 : decode cX12_tellRule 320 = .ok (.aload_n 0, 1) := by decide +kernel
theorem dX12_tellRule_321 : decode cX12_tellRule 321 = .ok (.getfield 236, 3) := by decide +kernel
theorem dX12_tellRule_324 : decode cX12_tellRule 324 = .ok (.ifCond .ne 48, 3) := by decide +kernel
theorem dX12_tellRule_327 : decode cX12_tellRule 327 = .ok (.aload_n 0, 1) := by decide +kernel
theorem dX12_tellRule_328 : decode cX12_tellRule 328 = .ok (.iload 4, 2) := by decide +kernel
theorem dX12_tellRule_330 : decode cX12_tellRule 330 = .ok (.invokevirtual 288, 3) := by decide +kernel
theorem dX12_tellRule_333 : decode cX12_tellRule 333 = .ok (.aload_n 0, 1) := by decide +kernel
theorem dX12_tellRule_334 : decode cX12_tellRule 334 = .ok (.bipush 25, 2) := by decide +kernel
theorem dX12_tellRule_336 : decode cX12_tellRule 336 = .ok (.invokevirtual 254, 3) := by decide +kernel
theorem dX12_tellRule_339 : decode cX12_tellRule 339 = .ok (.istore 4, 2) := by decide +kernel
theorem dX12_tellRule_341 : decode cX12_tellRule 341 = .ok (.iload 4, 2) := by decide +kernel
theorem dX12_tellRule_343 : decode cX12_tellRule 343 = .ok (.ifCond .ne 12, 3) := by decide +kernel
theorem dX12_tellRule_346 : decode cX12_tellRule 346 = .ok (.aload_n 0, 1) := by decide +kernel
theorem dX12_tellRule_347 : decode cX12_tellRule 347 = .ok (.bipush 26, 2) := by decide +kernel
theorem dX12_tellRule_349 : decode cX12_tellRule 349 = .ok (.invokevirtual 254, 3) := by decide +kernel
theorem dX12_tellRule_352 : decode cX12_tellRule 352 = .ok (.ifCond .eq 7, 3) := by decide +kernel
theorem dX12_tellRule_355 : decode cX12_tellRule 355 = .ok (.iconst 1, 1) := by decide +kernel
theorem dX12_tellRule_356 : decode cX12_tellRule 356 = .ok (.goto 4, 3) := by decide +kernel
theorem dX12_tellRule_359 : decode cX12_tellRule 359 = .ok (.iconst 0, 1) := by decide +kernel
theorem dX12_tellRule_360 : decode cX12_tellRule 360 = .ok (.istore_n 3, 1) := by decide +kernel
theorem dX12_tellRule_361 : decode cX12_tellRule 361 = .ok (.iload_n 3, 1) := by decide +kernel
theorem dX12_tellRule_362 : decode cX12_tellRule 362 = .ok (.ifCond .eq (-46), 3) := by decide +kernel
theorem dX12_tellRule_365 : decode cX12_tellRule 365 = .ok (.aload_n 0, 1) := by decide +kernel
theorem dX12_tellRule_366 : decode cX12_tellRule 366 = .ok (.invokevirtual 257, 3) := by decide +kernel
theorem dX12_tellRule_369 : decode cX12_tellRule 369 = .ok (.goto (-53), 3) := by decide +kernel
theorem dX12_tellRule_372 : decode cX12_tellRule 372 = .ok (.aload_n 0, 1) := by decide +kernel
theorem dX12_tellRule_373 : decode cX12_tellRule 373 = .ok (.iconst 4, 1) := by decide +kernel
theorem dX12_tellRule_374 : decode cX12_tellRule 374 = .ok (.invokevirtual 278, 3) := by decide +kernel
theorem dX12_tellRule_377 : decode cX12_tellRule 377 = .ok (.aload_n 0, 1) := by decide +kernel
theorem dX12_tellRule_378 : decode cX12_tellRule 378 = .ok (.getfield 236, 3) := by decide +kernel
theorem dX12_tellRule_381 : decode cX12_tellRule 381 = .ok (.ifCond .le 4, 3) := by decide +kernel
theorem dX12_tellRule_384 : decode cX12_tellRule 384 = .ok (.return_, 1) := by decide +kernel
theorem dX12_tellRule_385 : decode cX12_tellRule 385 = .ok (.aload_n 0, 1) := by decide +kernel
theorem dX12_tellRule_386 : decode cX12_tellRule 386 = .ok (.getfield 61, 3) := by decide +kernel
theorem dX12_tellRule_389 : decode cX12_tellRule 389 = .ok (.iload_n 2, 1) := by decide +kernel
theorem dX12_tellRule_390 : decode cX12_tellRule 390 = .ok (.aload_n 0, 1) := by decide +kernel
theorem dX12_tellRule_391 : decode cX12_tellRule 391 = .ok (.getfield 64, 3) := by decide +kernel
theorem dX12_tellRule_394 : decode cX12_tellRule 394 = .ok (.aload_n 0, 1) := by decide +kernel
theorem dX12_tellRule_395 : decode cX12_tellRule 395 = .ok (.getfield 269, 3) := by decide +kernel
theorem dX12_tellRule_398 : decode cX12_tellRule 398 = .ok (.iaload, 1) := by decide +kernel
theorem dX12_tellRule_399 : decode cX12_tellRule 399 = .ok (.iastore, 1) := by decide +kernel
theorem dX12_tellRule_400 : decode cX12_tellRule 400 = .ok (.aload_n 0, 1) := by decide +kernel
theorem dX12_tellRule_401 : decode cX12_tellRule 401 = .ok (.getfield 40, 3) := by decide +kernel
theorem dX12_tellRule_404 : decode cX12_tellRule 404 = .ok (.aload_n 0, 1) := by decide +kernel
theorem dX12_tellRule_405 : decode cX12_tellRule 405 = .ok (.getfield 269, 3) := by decide +kernel
theorem dX12_tellRule_408 : decode cX12_tellRule 408 = .ok (.dup2, 1) := by decide +kernel
theorem dX12_tellRule_409 : decode cX12_tellRule 409 = .ok (.iaload, 1) := by decide +kernel
theorem dX12_tellRule_410 : decode cX12_tellRule 410 = .ok (.iconst 1, 1) := by decide +kernel
theorem dX12_tellRule_411 : decode cX12_tellRule 411 = .ok (.iadd, 1) := by decide +kernel
theorem dX12_tellRule_412 : decode cX12_tellRule 412 = .ok (.iastore, 1) := by decide +kernel
theorem dX12_tellRule_413 : decode cX12_tellRule 413 = .ok (.return_, 1) := by decide +kernel
set_option maxRecDepth 20000 in
theorem ggX12_relation_X12_expression : GoodIn wsX12_relation wsX12_expression := goodIn_r _ [16, 17, 18, 2, 19, 3, 4, 20, 21, 22, 23, 15, 24, 25, 26, 27, 28, 29, 30, 31, 32, 33, 34, 35, 36, 37, 38, 39, 1, 40, 41, 42, 43, 44, 45, 46, 47, 48, 49, 50, 51, 52, 53, 54, 55, 56, 57, 58, 59, 60, 61, 62, 63, 64, 65, 66, 67, 68, 69, 70, 71, 72, 73, 74, 75, 76, 77, 78, 79, 80, 81, 82, 83, 84, 85, 86, 87, 88, 89, 90, 91, 92, 93, 94, 95, 96, 97, 98, 99, 100, 101, 102, 103, 104, 105, 106, 107, 108, 109, 110, 111, 112, 113, 114, 115, 116, 117, 118, 119, 120, 121] (by decide +kernel) (by decide +kernel)
set_option maxRecDepth 20000 in
theorem gX12_relation_X12_expression : GoodIn wsX12_relation (wsV RX12 285 RX12 yX12_expression wsX12_expression) := goodIn_app (goodIn_of _ (by decide +kernel)) ggX12_relation_X12_expression
set_option maxRecDepth 20000 in
theorem ggX12_relation_X12_fail : GoodIn wsX12_relation wsX12_fail := goodIn_r _ [28, 2, 29, 4, 30, 45, 46, 47, 48, 49, 50, 51, 52, 53, 54, 55, 56, 57, 58, 59, 60, 61, 62, 63, 64, 65, 66, 67, 68, 69, 70, 71, 72, 73, 74, 75, 76, 77, 78, 79, 80, 81, 82, 83, 84, 85, 86, 87, 88, 89, 90, 91, 92, 93, 94, 95, 96, 97, 98, 99, 100, 101, 102, 103, 104, 105, 106, 107, 108, 109, 110, 111, 112, 113, 114, 115, 116, 117, 118, 119, 120, 121] (by decide +kernel) (by decide +kernel)
set_option maxRecDepth 20000 in
theorem gX12_relation_X12_fail : GoodIn wsX12_relation (wsV RX12 251 RX12 yX12_fail wsX12_fail) := goodIn_app (goodIn_of _ (by decide +kernel)) ggX12_relation_X12_fail
set_option maxRecDepth 20000 in
theorem ggX12_relation_X12_next : GoodIn wsX12_relation wsX12_next := goodIn_r _ [34, 4, 25, 26, 27, 15, 28, 2, 29, 30, 45, 46, 47, 48, 49, 50, 51, 52, 53, 54, 55, 56, 57, 58, 59, 60, 61, 62, 63, 64, 65, 66, 67, 68, 69, 70, 71, 72, 73, 74, 75, 76, 77, 78, 79, 80, 81, 82, 83, 84, 85, 86, 87, 88, 89, 90, 91, 92, 93, 94, 95, 96, 97, 98, 99, 100, 101, 102, 103, 104, 105, 106, 107, 108, 109, 110, 111, 112, 113, 114, 115, 116, 117, 118, 119, 120, 121] (by decide +kernel) (by decide +kernel)
set_option maxRecDepth 20000 in
theorem gX12_relation_X12_next : GoodIn wsX12_relation (wsV RX12 257 RX12 yX12_next wsX12_next) := goodIn_app (goodIn_of _ (by decide +kernel)) ggX12_relation_X12_next
theorem dX12_relation_0 : decode cX12_relation 0 = .ok (.aload_n 0, 1) := by decide +kernel
theorem dX12_relation_1 : decode cX12_relation 1 = .ok (.getfield 272, 3) := by decide +kernel
theorem dX12_relation_4 : decode cX12_relation 4 = .ok (.istore_n 2, 1) := by decide +kernel
theorem dX12_relation_5 : decode cX12_relation 5 = .ok (.aload_n 0, 1) := by decide +kernel
theorem dX12_relation_6 : decode cX12_relation 6 = .ok (.invokevirtual 285, 3) := by decide +kernel
theorem dX12_relation_9 : decode cX12_relation 9 = .ok (.aload_n 0, 1) := by decide +kernel
theorem dX12_relation_10 : decode cX12_relation 10 = .ok (.getfield 236, 3) := by decide +kernel
theorem dX12_relation_13 : decode cX12_relation 13 = .ok (.ifCond .le 7, 3) := by decide +kernel
theorem dX12_relation_16 : decode cX12_relation 16 = .ok (.iconst 0, 1) := by decide +kernel
theorem dX12_relation_17 : decode cX12_relation 17 = .ok (.goto 15, 3) := by decide +kernel
theorem dX12_relation_20 : decode cX12_relation 20 = .ok (.aload_n 0, 1) := by decide +kernel
theorem dX12_relation_21 : decode cX12_relation 21 = .ok (.getfield 20, 3) := by decide +kernel
theorem dX12_relation_24 : decode cX12_relation 24 = .ok (.aload_n 0, 1) := by decide +kernel
theorem dX12_relation_25 : decode cX12_relation 25 = .ok (.getfield 239, 3) := by decide +kernel
theorem dX12_relation_28 : decode cX12_relation 28 = .ok (.iaload, 1) := by decide +kernel
theorem dX12_relation_29 : decode cX12_relation 29 = .ok (.bipush 11, 2) := by decide +kernel
theorem dX12_relation_31 : decode cX12_relation 31 = .ok (.isub, 1) := by decide +kernel
theorem dX12_relation_32 : decode cX12_relation 32 = .ok (.istore_n 3, 1) := by decide +kernel
theorem dX12_relation_33 : decode cX12_relation 33 = .ok (.aload_n 0, 1) := by decide +kernel
theorem dX12_relation_34 : decode cX12_relation 34 = .ok (.getfield 236, 3) := by decide +kernel
theorem dX12_relation_37 : decode cX12_relation 37 = .ok (.ifCond .ne 17, 3) := by decide +kernel
theorem dX12_relation_40 : decode cX12_relation 40 = .ok (.iload_n 3, 1) := by decide +kernel
theorem dX12_relation_41 : decode cX12_relation 41 = .ok (.ifCond .lt 8, 3) := by decide +kernel
theorem dX12_relation_44 : decode cX12_relation 44 = .ok (.iload_n 3, 1) := by decide +kernel
theorem dX12_relation_45 : decode cX12_relation 45 = .ok (.iconst 3, 1) := by decide +kernel
theorem dX12_relation_46 : decode cX12_relation 46 = .ok (.if_icmp .le 8, 3) := by decide +kernel
theorem dX12_relation_49 : decode cX12_relation 49 = .ok (.aload_n 0, 1) := by decide +kernel
theorem dX12_relation_50 : decode cX12_relation 50 = .ok (.iconst 1, 1) := by decide +kernel
theorem dX12_relation_51 : decode cX12_relation 51 = .ok (.invokevirtual 251, 3) := by decide +kernel
theorem dX12_relation_54 : decode cX12_relation 54 = .ok (.aload_n 0, 1) := by decide +kernel
theorem dX12_relation_55 : decode cX12_relation 55 = .ok (.invokevirtual 257, 3) := by decide +kernel
theorem dX12_relation_58 : decode cX12_relation 58 = .ok (.aload_n 0, 1) := by decide +kernel
theorem dX12_relation_59 : decode cX12_relation 59 = .ok (.getfield 272, 3) := by decide +kernel
theorem dX12_relation_62 : decode cX12_relation 62 = .ok (.istore 4, 2) := by decide +kernel
theorem dX12_relation_64 : decode cX12_relation 64 = .ok (.aload_n 0, 1) := by decide +kernel
theorem dX12_relation_65 : decode cX12_relation 65 = .ok (.invokevirtual 285, 3) := by decide +kernel
theorem dX12_relation_68 : decode cX12_relation 68 = .ok (.aload_n 0, 1) := by decide +kernel
theorem dX12_relation_69 : decode cX12_relation 69 = .ok (.getfield 236, 3) := by decide +kernel
theorem dX12_relation_72 : decode cX12_relation 72 = .ok (.ifCond .le 4, 3) := by decide +kernel
theorem dX12_relation_75 : decode cX12_relation 75 = .ok (.return_, 1) := by decide +kernel
theorem dX12_relation_76 : decode cX12_relation 76 = .ok (.sipush 200, 3) := by decide +kernel
theorem dX12_relation_79 : decode cX12_relation 79 = .ok (.aload_n 0, 1) := by decide +kernel
theorem dX12_relation_80 : decode cX12_relation 80 = .ok (.getfield 269, 3) := by decide +kernel
theorem dX12_relation_83 : decode cX12_relation 83 = .ok (.imul, 1) := by decide +kernel
theorem dX12_relation_84 : decode cX12_relation 84 = .ok (.aload_n 0, 1) := by decide +kernel
theorem dX12_relation_85 : decode cX12_relation 85 = .ok (.getfield 64, 3) := by decide +kernel
theorem dX12_relation_88 : decode cX12_relation 88 = .ok (.aload_n 0, 1) := by decide +kernel
theorem dX12_relation_89 : decode cX12_relation 89 = .ok (.getfield 269, 3) := by decide +kernel
theorem dX12_relation_92 : decode cX12_relation 92 = .ok (.iaload, 1) := by decide +kernel
theorem dX12_relation_93 : decode cX12_relation 93 = .ok (.iadd, 1) := by decide +kernel
theorem dX12_relation_94 : decode cX12_relation 94 = .ok (.istore 5, 2) := by decide +kernel
theorem dX12_relation_96 : decode cX12_relation 96 = .ok (.aload_n 0, 1) := by decide +kernel
theorem dX12_relation_97 : decode cX12_relation 97 = .ok (.getfield 67, 3) := by decide +kernel
theorem dX12_relation_100 : decode cX12_relation 100 = .ok (.iload 5, 2) := by decide +kernel
theorem dX12_relation_102 : decode cX12_relation 102 = .ok (.iload_n 3, 1) := by decide +kernel
theorem dX12_relation_103 : decode cX12_relation 103 = .ok (.iastore, 1) := by decide +kernel
theorem dX12_relation_104 : decode cX12_relation 104 = .ok (.aload_n 0, 1) := by decide +kernel
theorem dX12_relation_105 : decode cX12_relation 105 = .ok (.getfield 70, 3) := by decide +kernel
theorem dX12_relation_108 : decode cX12_relation 108 = .ok (.iload 5, 2) := by decide +kernel
theorem dX12_relation_110 : decode cX12_relation 110 = .ok (.iload_n 2, 1) := by decide +kernel
theorem dX12_relation_111 : decode cX12_relation 111 = .ok (.iastore, 1) := by decide +kernel
theorem dX12_relation_112 : decode cX12_relation 112 = .ok (.aload_n 0, 1) := by decide +kernel
theorem dX12_relation_113 : decode cX12_relation 113 = .ok (.getfield 73, 3) := by decide +kernel
theorem dX12_relation_116 : decode cX12_relation 116 = .ok (.iload 5, 2) := by decide +kernel
theorem dX12_relation_118 : decode cX12_relation 118 = .ok (.iload 4, 2) := by decide +kernel
theorem dX12_relation_120 : decode cX12_relation 120 = .ok (.iastore, 1) := by decide +kernel
theorem dX12_relation_121 : decode cX12_relation 121 = .ok (.aload_n 0, 1) := by decide +kernel
theorem dX12_relation_122 : decode cX12_relation 122 = .ok (.getfield 76, 3) := by decide +kernel
theorem dX12_relation_125 : decode cX12_relation 125 = .ok (.iload 5, 2) := by decide +kernel
theorem dX12_relation_127 : decode cX12_relation 127 = .ok (.aload_n 0, 1) := by decide +kernel
theorem dX12_relation_128 : decode cX12_relation 128 = .ok (.getfield 272, 3) := by decide +kernel
theorem dX12_relation_131 : decode cX12_relation 131 = .ok (.iastore, 1) := by decide +kernel
theorem dX12_relation_132 : decode cX12_relation 132 = .ok (.aload_n 0, 1) := by decide +kernel
theorem dX12_relation_133 : decode cX12_relation 133 = .ok (.getfield 79, 3) := by decide +kernel
theorem dX12_relation_136 : decode cX12_relation 136 = .ok (.iload 5, 2) := by decide +kernel
theorem dX12_relation_138 : decode cX12_relation 138 = .ok (.iload_n 1, 1) := by decide +kernel
theorem dX12_relation_139 : decode cX12_relation 139 = .ok (.bastore, 1) := by decide +kernel
theorem dX12_relation_140 : decode cX12_relation 140 = .ok (.aload_n 0, 1) := by decide +kernel
theorem dX12_relation_141 : decode cX12_relation 141 = .ok (.getfield 64, 3) := by decide +kernel
theorem dX12_relation_144 : decode cX12_relation 144 = .ok (.aload_n 0, 1) := by decide +kernel
theorem dX12_relation_145 : decode cX12_relation 145 = .ok (.getfield 269, 3) := by decide +kernel
theorem dX12_relation_148 : decode cX12_relation 148 = .ok (.dup2, 1) := by decide +kernel
theorem dX12_relation_149 : decode cX12_relation 149 = .ok (.iaload, 1) := by decide +kernel
theorem dX12_relation_150 : decode cX12_relation 150 = .ok (.iconst 1, 1) := by decide +kernel
theorem dX12_relation_151 : decode cX12_relation 151 = .ok (.iadd, 1) := by decide +kernel
theorem dX12_relation_152 : decode cX12_relation 152 = .ok (.iastore, 1) := by decide +kernel
theorem dX12_relation_153 : decode cX12_relation 153 = .ok (.return_, 1) := by decide +kernel
theorem dX12_emit_0 : decode cX12_emit 0 = .ok (.aload_n 0, 1) := by decide +kernel
theorem dX12_emit_1 : decode cX12_emit 1 = .ok (.getfield 83, 3) := by decide +kernel
theorem dX12_emit_4 : decode cX12_emit 4 = .ok (.aload_n 0, 1) := by decide +kernel
theorem dX12_emit_5 : decode cX12_emit 5 = .ok (.getfield 272, 3) := by decide +kernel
theorem dX12_emit_8 : decode cX12_emit 8 = .ok (.iload_n 1, 1) := by decide +kernel
theorem dX12_emit_9 : decode cX12_emit 9 = .ok (.iastore, 1) := by decide +kernel
theorem dX12_emit_10 : decode cX12_emit 10 = .ok (.aload_n 0, 1) := by decide +kernel
theorem dX12_emit_11 : decode cX12_emit 11 = .ok (.getfield 86, 3) := by decide +kernel
theorem dX12_emit_14 : decode cX12_emit 14 = .ok (.aload_n 0, 1) := by decide +kernel
theorem dX12_emit_15 : decode cX12_emit 15 = .ok (.getfield 272, 3) := by decide +kernel
theorem dX12_emit_18 : decode cX12_emit 18 = .ok (.iload_n 2, 1) := by decide +kernel
theorem dX12_emit_19 : decode cX12_emit 19 = .ok (.iastore, 1) := by decide +kernel
theorem dX12_emit_20 : decode cX12_emit 20 = .ok (.aload_n 0, 1) := by decide +kernel
theorem dX12_emit_21 : decode cX12_emit 21 = .ok (.dup, 1) := by decide +kernel
theorem dX12_emit_22 : decode cX12_emit 22 = .ok (.getfield 272, 3) := by decide +kernel
theorem dX12_emit_25 : decode cX12_emit 25 = .ok (.iconst 1, 1) := by decide +kernel
theorem dX12_emit_26 : decode cX12_emit 26 = .ok (.iadd, 1) := by decide +kernel
theorem dX12_emit_27 : decode cX12_emit 27 = .ok (.putfield 272, 3) := by decide +kernel
theorem dX12_emit_30 : decode cX12_emit 30 = .ok (.return_, 1) := by decide +kernel
set_option maxRecDepth 20000 in
theorem ggX12_comesOut_X12_emit : GoodIn wsX12_comesOut wsX12_emit := goodIn_r _ [7, 8, 9, 10, 11, 12, 13, 14, 15, 16, 17, 18, 19, 20, 21, 22, 23, 24, 25, 26, 27, 28, 29, 30, 31, 32, 33, 34, 35, 36, 37, 38, 39, 40, 41, 42, 43, 44, 45, 46, 47, 48, 49, 50, 51, 52, 53, 54, 55, 56, 57, 58, 59, 60, 61, 62, 63, 64, 65, 66, 67, 68, 69, 70, 71, 72, 73, 74, 75, 76, 77, 78, 79, 80, 81, 82, 83, 84, 85, 86, 87] (by decide +kernel) (by decide +kernel)
set_option maxRecDepth 20000 in
theorem gX12_comesOut_X12_emit : GoodIn wsX12_comesOut (wsV RX12 295 RX12 yX12_emit wsX12_emit) := goodIn_app (goodIn_of _ (by decide +kernel)) ggX12_comesOut_X12_emit
theorem dX12_comesOut_0 : decode cX12_comesOut 0 = .ok (.aload_n 0, 1) := by decide +kernel
theorem dX12_comesOut_1 : decode cX12_comesOut 1 = .ok (.getfield 292, 3) := by decide +kernel
theorem dX12_comesOut_4 : decode cX12_comesOut 4 = .ok (.ifCond .le 88, 3) := by decide +kernel
theorem dX12_comesOut_7 : decode cX12_comesOut 7 = .ok (.aload_n 0, 1) := by decide +kernel
theorem dX12_comesOut_8 : decode cX12_comesOut 8 = .ok (.getfield 89, 3) := by decide +kernel
theorem dX12_comesOut_11 : decode cX12_comesOut 11 = .ok (.aload_n 0, 1) := by decide +kernel
theorem dX12_comesOut_12 : decode cX12_comesOut 12 = .ok (.getfield 292, 3) := by decide +kernel
theorem dX12_comesOut_15 : decode cX12_comesOut 15 = .ok (.iconst 1, 1) := by decide +kernel
theorem dX12_comesOut_16 : decode cX12_comesOut 16 = .ok (.isub, 1) := by decide +kernel
theorem dX12_comesOut_17 : decode cX12_comesOut 17 = .ok (.iaload, 1) := by decide +kernel
theorem dX12_comesOut_18 : decode cX12_comesOut 18 = .ok (.bipush 6, 2) := by decide +kernel
theorem dX12_comesOut_20 : decode cX12_comesOut 20 = .ok (.if_icmp .eq 72, 3) := by decide +kernel
theorem dX12_comesOut_23 : decode cX12_comesOut 23 = .ok (.iload_n 1, 1) := by decide +kernel
theorem dX12_comesOut_24 : decode cX12_comesOut 24 = .ok (.ifCond .eq 19, 3) := by decide +kernel
theorem dX12_comesOut_27 : decode cX12_comesOut 27 = .ok (.aload_n 0, 1) := by decide +kernel
theorem dX12_comesOut_28 : decode cX12_comesOut 28 = .ok (.getfield 89, 3) := by decide +kernel
theorem dX12_comesOut_31 : decode cX12_comesOut 31 = .ok (.aload_n 0, 1) := by decide +kernel
theorem dX12_comesOut_32 : decode cX12_comesOut 32 = .ok (.getfield 292, 3) := by decide +kernel
theorem dX12_comesOut_35 : decode cX12_comesOut 35 = .ok (.iconst 1, 1) := by decide +kernel
theorem dX12_comesOut_36 : decode cX12_comesOut 36 = .ok (.isub, 1) := by decide +kernel
theorem dX12_comesOut_37 : decode cX12_comesOut 37 = .ok (.iaload, 1) := by decide +kernel
theorem dX12_comesOut_38 : decode cX12_comesOut 38 = .ok (.bipush 10, 2) := by decide +kernel
theorem dX12_comesOut_40 : decode cX12_comesOut 40 = .ok (.if_icmp .ne 52, 3) := by decide +kernel
theorem dX12_comesOut_43 : decode cX12_comesOut 43 = .ok (.aload_n 0, 1) := by decide +kernel
theorem dX12_comesOut_44 : decode cX12_comesOut 44 = .ok (.dup, 1) := by decide +kernel
theorem dX12_comesOut_45 : decode cX12_comesOut 45 = .ok (.getfield 292, 3) := by decide +kernel
theorem dX12_comesOut_48 : decode cX12_comesOut 48 = .ok (.iconst 1, 1) := by decide +kernel
theorem dX12_comesOut_49 : decode cX12_comesOut 49 = .ok (.isub, 1) := by decide +kernel
theorem dX12_comesOut_50 : decode cX12_comesOut 50 = .ok (.putfield 292, 3) := by decide +kernel
theorem dX12_comesOut_53 : decode cX12_comesOut 53 = .ok (.aload_n 0, 1) := by decide +kernel
theorem dX12_comesOut_54 : decode cX12_comesOut 54 = .ok (.getfield 89, 3) := by decide +kernel
theorem dX12_comesOut_57 : decode cX12_comesOut 57 = .ok (.aload_n 0, 1) := by decide +kernel
theorem dX12_comesOut_58 : decode cX12_comesOut 58 = .ok (.getfield 292, 3) := by decide +kernel
theorem dX12_comesOut_61 : decode cX12_comesOut 61 = .ok (.iaload, 1) := by decide +kernel
theorem dX12_comesOut_62 : decode cX12_comesOut 62 = .ok (.istore_n 2, 1) := by decide +kernel
theorem dX12_comesOut_63 : decode cX12_comesOut 63 = .ok (.aload_n 0, 1) := by decide +kernel
theorem dX12_comesOut_64 : decode cX12_comesOut 64 = .ok (.iload_n 2, 1) := by decide +kernel
theorem dX12_comesOut_65 : decode cX12_comesOut 65 = .ok (.bipush 8, 2) := by decide +kernel
theorem dX12_comesOut_67 : decode cX12_comesOut 67 = .ok (.if_icmp .ne 7, 3) := by decide +kernel
theorem dX12_comesOut_70 : decode cX12_comesOut 70 = .ok (.iconst 2, 1) := by decide +kernel
theorem dX12_comesOut_71 : decode cX12_comesOut 71 = .ok (.goto 14, 3) := by decide +kernel
theorem dX12_comesOut_74 : decode cX12_comesOut 74 = .ok (.iload_n 2, 1) := by decide +kernel
theorem dX12_comesOut_75 : decode cX12_comesOut 75 = .ok (.bipush 9, 2) := by decide +kernel
theorem dX12_comesOut_77 : decode cX12_comesOut 77 = .ok (.if_icmp .ne 7, 3) := by decide +kernel
theorem dX12_comesOut_80 : decode cX12_comesOut 80 = .ok (.iconst 3, 1) := by decide +kernel
theorem dX12_comesOut_81 : decode cX12_comesOut 81 = .ok (.goto 4, 3) := by decide +kernel
theorem dX12_comesOut_84 : decode cX12_comesOut 84 = .ok (.iconst 4, 1) := by decide +kernel
theorem dX12_comesOut_85 : decode cX12_comesOut 85 = .ok (.iconst 0, 1) := by decide +kernel
theorem dX12_comesOut_86 : decode cX12_comesOut 86 = .ok (.invokevirtual 295, 3) := by decide +kernel
theorem dX12_comesOut_89 : decode cX12_comesOut 89 = .ok (.goto (-89), 3) := by decide +kernel
theorem dX12_comesOut_92 : decode cX12_comesOut 92 = .ok (.return_, 1) := by decide +kernel
set_option maxRecDepth 20000 in
theorem ggX12_expression_X12_is : GoodIn wsX12_expression wsX12_is := goodIn_r _ [12, 3, 5, 6, 34, 35, 36, 37, 38, 39, 40, 41, 42, 43, 44, 45, 46, 47, 48, 49, 50, 51, 52, 53, 54, 55, 56, 57, 58, 59, 60, 61, 62, 63, 64, 65, 66, 67, 68, 69, 70, 71, 72, 73, 74, 75, 76, 77, 78, 79, 80, 81, 82, 83, 84, 85, 86, 87, 88, 89, 90, 91, 92, 93, 94, 95, 96, 97, 98, 99, 100, 101, 102, 103, 104, 105, 106, 107, 108, 109, 110] (by decide +kernel) (by decide +kernel)
set_option maxRecDepth 20000 in
theorem gX12_expression_X12_is : GoodIn wsX12_expression (wsV RX12 254 RX12 yX12_is wsX12_is) := goodIn_app (goodIn_of _ (by decide +kernel)) ggX12_expression_X12_is
set_option maxRecDepth 20000 in
theorem ggX12_expression_X12_fail : GoodIn wsX12_expression wsX12_fail := goodIn_r _ [16, 3, 17, 6, 18, 34, 35, 36, 37, 38, 39, 40, 41, 42, 43, 44, 45, 46, 47, 48, 49, 50, 51, 52, 53, 54, 55, 56, 57, 58, 59, 60, 61, 62, 63, 64, 65, 66, 67, 68, 69, 70, 71, 72, 73, 74, 75, 76, 77, 78, 79, 80, 81, 82, 83, 84, 85, 86, 87, 88, 89, 90, 91, 92, 93, 94, 95, 96, 97, 98, 99, 100, 101, 102, 103, 104, 105, 106, 107, 108, 109, 110] (by decide +kernel) (by decide +kernel)
set_option maxRecDepth 20000 in
theorem gX12_expression_X12_fail : GoodIn wsX12_expression (wsV RX12 251 RX12 yX12_fail wsX12_fail) := goodIn_app (goodIn_of _ (by decide +kernel)) ggX12_expression_X12_fail
set_option maxRecDepth 20000 in
theorem ggX12_expression_X12_next : GoodIn wsX12_expression wsX12_next := goodIn_r _ [22, 6, 13, 14, 15, 11, 16, 3, 17, 18, 34, 35, 36, 37, 38, 39, 40, 41, 42, 43, 44, 45, 46, 47, 48, 49, 50, 51, 52, 53, 54, 55, 56, 57, 58, 59, 60, 61, 62, 63, 64, 65, 66, 67, 68, 69, 70, 71, 72, 73, 74, 75, 76, 77, 78, 79, 80, 81, 82, 83, 84, 85, 86, 87, 88, 89, 90, 91, 92, 93, 94, 95, 96, 97, 98, 99, 100, 101, 102, 103, 104, 105, 106, 107, 108, 109, 110] (by decide +kernel) (by decide +kernel)
set_option maxRecDepth 20000 in
theorem gX12_expression_X12_next : GoodIn wsX12_expression (wsV RX12 257 RX12 yX12_next wsX12_next) := goodIn_app (goodIn_of _ (by decide +kernel)) ggX12_expression_X12_next
set_option maxRecDepth 20000 in
theorem ggX12_expression_X12_emit : GoodIn wsX12_expression wsX12_emit := goodIn_r _ [26, 27, 28, 29, 34, 35, 36, 37, 38, 39, 40, 41, 42, 43, 44, 45, 46, 47, 48, 49, 50, 51, 52, 53, 54, 55, 56, 57, 58, 59, 60, 61, 62, 63, 64, 65, 66, 67, 68, 69, 70, 71, 72, 73, 74, 75, 76, 77, 78, 79, 80, 81, 82, 83, 84, 85, 86, 87, 88, 89, 90, 91, 92, 93, 94, 95, 96, 97, 98, 99, 100, 101, 102, 103, 104, 105, 106, 107, 108, 109, 110] (by decide +kernel) (by decide +kernel)
set_option maxRecDepth 20000 in
theorem gX12_expression_X12_emit : GoodIn wsX12_expression (wsV RX12 295 RX12 yX12_emit wsX12_emit) := goodIn_app (goodIn_of _ (by decide +kernel)) ggX12_expression_X12_emit
set_option maxRecDepth 20000 in
theorem ggX12_expression_X12_comesOut : GoodIn wsX12_expression wsX12_comesOut := goodIn_r _ [33, 1, 4, 23, 24, 25, 11, 26, 27, 28, 29, 34, 35, 36, 37, 38, 39, 40, 41, 42, 43, 44, 45, 46, 47, 48, 49, 50, 51, 52, 53, 54, 55, 56, 57, 58, 59, 60, 61, 62, 63, 64, 65, 66, 67, 68, 69, 70, 71, 72, 73, 74, 75, 76, 77, 78, 79, 80, 81, 82, 83, 84, 85, 86, 87, 88, 89, 90, 91, 92, 93, 94, 95, 96, 97, 98, 99, 100, 101, 102, 103, 104, 105, 106, 107, 108, 109, 110] (by decide +kernel) (by decide +kernel)
set_option maxRecDepth 20000 in
theorem gX12_expression_X12_comesOut : GoodIn wsX12_expression (wsV RX12 299 RX12 yX12_comesOut wsX12_comesOut) := goodIn_app (goodIn_of _ (by decide +kernel)) ggX12_expression_X12_comesOut
theorem dX12_expression_0 : decode cX12_expression 0 = .ok (.aload_n 0, 1) := by decide +kernel
theorem dX12_expression_1 : decode cX12_expression 1 = .ok (.iconst 0, 1) := by decide +kernel
theorem dX12_expression_2 : decode cX12_expression 2 = .ok (.putfield 292, 3) := by decide +kernel
theorem dX12_expression_5 : decode cX12_expression 5 = .ok (.aload_n 0, 1) := by decide +kernel
theorem dX12_expression_6 : decode cX12_expression 6 = .ok (.getfield 263, 3) := by decide +kernel
theorem dX12_expression_9 : decode cX12_expression 9 = .ok (.istore_n 1, 1) := by decide +kernel
theorem dX12_expression_10 : decode cX12_expression 10 = .ok (.iconst 1, 1) := by decide +kernel
theorem dX12_expression_11 : decode cX12_expression 11 = .ok (.istore_n 2, 1) := by decide +kernel
theorem dX12_expression_12 : decode cX12_expression 12 = .ok (.iload_n 2, 1) := by decide +kernel
theorem dX12_expression_13 : decode cX12_expression 13 = .ok (.ifCond .eq 347, 3) := by decide +kernel
theorem dX12_expression_16 : decode cX12_expression 16 = .ok (.aload_n 0, 1) := by decide +kernel
theorem dX12_expression_17 : decode cX12_expression 17 = .ok (.getfield 236, 3) := by decide +kernel
theorem dX12_expression_20 : decode cX12_expression 20 = .ok (.ifCond .ne 340, 3) := by decide +kernel
theorem dX12_expression_23 : decode cX12_expression 23 = .ok (.aload_n 0, 1) := by decide +kernel
theorem dX12_expression_24 : decode cX12_expression 24 = .ok (.bipush 6, 2) := by decide +kernel
theorem dX12_expression_26 : decode cX12_expression 26 = .ok (.invokevirtual 254, 3) := by decide +kernel
theorem dX12_expression_29 : decode cX12_expression 29 = .ok (.ifCond .eq 63, 3) := by decide +kernel
theorem dX12_expression_32 : decode cX12_expression 32 = .ok (.aload_n 0, 1) := by decide +kernel
theorem dX12_expression_33 : decode cX12_expression 33 = .ok (.getfield 263, 3) := by decide +kernel
theorem dX12_expression_36 : decode cX12_expression 36 = .ok (.bipush 6, 2) := by decide +kernel
theorem dX12_expression_38 : decode cX12_expression 38 = .ok (.if_icmp .ne 8, 3) := by decide +kernel
theorem dX12_expression_41 : decode cX12_expression 41 = .ok (.aload_n 0, 1) := by decide +kernel
theorem dX12_expression_42 : decode cX12_expression 42 = .ok (.iconst 2, 1) := by decide +kernel
theorem dX12_expression_43 : decode cX12_expression 43 = .ok (.invokevirtual 251, 3) := by decide +kernel
theorem dX12_expression_46 : decode cX12_expression 46 = .ok (.aload_n 0, 1) := by decide +kernel
theorem dX12_expression_47 : decode cX12_expression 47 = .ok (.getfield 236, 3) := by decide +kernel
theorem dX12_expression_50 : decode cX12_expression 50 = .ok (.ifCond .le 4, 3) := by decide +kernel
theorem dX12_expression_53 : decode cX12_expression 53 = .ok (.return_, 1) := by decide +kernel
theorem dX12_expression_54 : decode cX12_expression 54 = .ok (.aload_n 0, 1) := by decide +kernel
theorem dX12_expression_55 : decode cX12_expression 55 = .ok (.dup, 1) := by decide +kernel
theorem dX12_expression_56 : decode cX12_expression 56 = .ok (.getfield 263, 3) := by decide +kernel
theorem dX12_expression_59 : decode cX12_expression 59 = .ok (.iconst 1, 1) := by decide +kernel
theorem dX12_expression_60 : decode cX12_expression 60 = .ok (.iadd, 1) := by decide +kernel
theorem dX12_expression_61 : decode cX12_expression 61 = .ok (.putfield 263, 3) := by decide +kernel
theorem dX12_expression_64 : decode cX12_expression 64 = .ok (.aload_n 0, 1) := by decide +kernel
theorem dX12_expression_65 : decode cX12_expression 65 = .ok (.invokevirtual 257, 3) := by decide +kernel
theorem dX12_expression_68 : decode cX12_expression 68 = .ok (.aload_n 0, 1) := by decide +kernel
theorem dX12_expression_69 : decode cX12_expression 69 = .ok (.getfield 89, 3) := by decide +kernel
theorem dX12_expression_72 : decode cX12_expression 72 = .ok (.aload_n 0, 1) := by decide +kernel
theorem dX12_expression_73 : decode cX12_expression 73 = .ok (.getfield 292, 3) := by decide +kernel
theorem dX12_expression_76 : decode cX12_expression 76 = .ok (.bipush 6, 2) := by decide +kernel
theorem dX12_expression_78 : decode cX12_expression 78 = .ok (.iastore, 1) := by decide +kernel
theorem dX12_expression_79 : decode cX12_expression 79 = .ok (.aload_n 0, 1) := by decide +kernel
theorem dX12_expression_80 : decode cX12_expression 80 = .ok (.dup, 1) := by decide +kernel
theorem dX12_expression_81 : decode cX12_expression 81 = .ok (.getfield 292, 3) := by decide +kernel
theorem dX12_expression_84 : decode cX12_expression 84 = .ok (.iconst 1, 1) := by decide +kernel
theorem dX12_expression_85 : decode cX12_expression 85 = .ok (.iadd, 1) := by decide +kernel
theorem dX12_expression_86 : decode cX12_expression 86 = .ok (.putfield 292, 3) := by decide +kernel
theorem dX12_expression_89 : decode cX12_expression 89 = .ok (.goto (-77), 3) := by decide +kernel
theorem dX12_expression_92 : decode cX12_expression 92 = .ok (.aload_n 0, 1) := by decide +kernel
theorem dX12_expression_93 : decode cX12_expression 93 = .ok (.getfield 236, 3) := by decide +kernel
theorem dX12_expression_96 : decode cX12_expression 96 = .ok (.ifCond .ne 35, 3) := by decide +kernel
theorem dX12_expression_99 : decode cX12_expression 99 = .ok (.aload_n 0, 1) := by decide +kernel
theorem dX12_expression_100 : decode cX12_expression 100 = .ok (.getfield 20, 3) := by decide +kernel
theorem dX12_expression_103 : decode cX12_expression 103 = .ok (.aload_n 0, 1) := by decide +kernel
theorem dX12_expression_104 : decode cX12_expression 104 = .ok (.getfield 239, 3) := by decide +kernel
theorem dX12_expression_107 : decode cX12_expression 107 = .ok (.iaload, 1) := by decide +kernel
theorem dX12_expression_108 : decode cX12_expression 108 = .ok (.bipush 27, 2) := by decide +kernel
theorem dX12_expression_110 : decode cX12_expression 110 = .ok (.if_icmp .lt 21, 3) := by decide +kernel
theorem dX12_expression_113 : decode cX12_expression 113 = .ok (.aload_n 0, 1) := by decide +kernel
theorem dX12_expression_114 : decode cX12_expression 114 = .ok (.getfield 20, 3) := by decide +kernel
theorem dX12_expression_117 : decode cX12_expression 117 = .ok (.aload_n 0, 1) := by decide +kernel
theorem dX12_expression_118 : decode cX12_expression 118 = .ok (.getfield 239, 3) := by decide +kernel
theorem dX12_expression_121 : decode cX12_expression 121 = .ok (.iaload, 1) := by decide +kernel
theorem dX12_expression_122 : decode cX12_expression 122 = .ok (.bipush 35, 2) := by decide +kernel
theorem dX12_expression_124 : decode cX12_expression 124 = .ok (.if_icmp .gt 7, 3) := by decide +kernel
theorem dX12_expression_127 : decode cX12_expression 127 = .ok (.iconst 1, 1) := by decide +kernel
theorem dX12_expression_128 : decode cX12_expression 128 = .ok (.goto 4, 3) := by decide +kernel
theorem dX12_expression_131 : decode cX12_expression 131 = .ok (.iconst 0, 1) := by decide +kernel
theorem dX12_expression_132 : decode cX12_expression 132 = .ok (.istore_n 3, 1) := by decide +kernel
theorem dX12_expression_133 : decode cX12_expression 133 = .ok (.aload_n 0, 1) := by decide +kernel
theorem dX12_expression_134 : decode cX12_expression 134 = .ok (.iconst 2, 1) := by decide +kernel
theorem dX12_expression_135 : decode cX12_expression 135 = .ok (.invokevirtual 254, 3) := by decide +kernel
theorem dX12_expression_138 : decode cX12_expression 138 = .ok (.ifCond .ne 12, 3) := by decide +kernel
theorem dX12_expression_141 : decode cX12_expression 141 = .ok (.iload_n 3, 1) := by decide +kernel
theorem dX12_expression_142 : decode cX12_expression 142 = .ok (.ifCond .ne 8, 3) := by decide +kernel
theorem dX12_expression_145 : decode cX12_expression 145 = .ok (.aload_n 0, 1) := by decide +kernel
theorem dX12_expression_146 : decode cX12_expression 146 = .ok (.iconst 1, 1) := by decide +kernel
theorem dX12_expression_147 : decode cX12_expression 147 = .ok (.invokevirtual 251, 3) := by decide +kernel
theorem dX12_expression_150 : decode cX12_expression 150 = .ok (.aload_n 0, 1) := by decide +kernel
theorem dX12_expression_151 : decode cX12_expression 151 = .ok (.getfield 236, 3) := by decide +kernel
theorem dX12_expression_154 : decode cX12_expression 154 = .ok (.ifCond .le 4, 3) := by decide +kernel
theorem dX12_expression_157 : decode cX12_expression 157 = .ok (.return_, 1) := by decide +kernel
theorem dX12_expression_158 : decode cX12_expression 158 = .ok (.iload_n 3, 1) := by decide +kernel
theorem dX12_expression_159 : decode cX12_expression 159 = .ok (.ifCond .eq 23, 3) := by decide +kernel
theorem dX12_expression_162 : decode cX12_expression 162 = .ok (.aload_n 0, 1) := by decide +kernel
theorem dX12_expression_163 : decode cX12_expression 163 = .ok (.iconst 1, 1) := by decide +kernel
theorem dX12_expression_164 : decode cX12_expression 164 = .ok (.aload_n 0, 1) := by decide +kernel
theorem dX12_expression_165 : decode cX12_expression 165 = .ok (.getfield 20, 3) := by decide +kernel
theorem dX12_expression_168 : decode cX12_expression 168 = .ok (.aload_n 0, 1) := by decide +kernel
theorem dX12_expression_169 : decode cX12_expression 169 = .ok (.getfield 239, 3) := by decide +kernel
theorem dX12_expression_172 : decode cX12_expression 172 = .ok (.iaload, 1) := by decide +kernel
theorem dX12_expression_173 : decode cX12_expression 173 = .ok (.bipush 27, 2) := by decide +kernel
theorem dX12_expression_175 : decode cX12_expression 175 = .ok (.isub, 1) := by decide +kernel
theorem dX12_expression_176 : decode cX12_expression 176 = .ok (.invokevirtual 295, 3) := by decide +kernel
theorem dX12_expression_179 : decode cX12_expression 179 = .ok (.goto 17, 3) := by decide +kernel
theorem dX12_expression_182 : decode cX12_expression 182 = .ok (.aload_n 0, 1) := by decide +kernel
theorem dX12_expression_183 : decode cX12_expression 183 = .ok (.iconst 0, 1) := by decide +kernel
theorem dX12_expression_184 : decode cX12_expression 184 = .ok (.aload_n 0, 1) := by decide +kernel
theorem dX12_expression_185 : decode cX12_expression 185 = .ok (.getfield 27, 3) := by decide +kernel
theorem dX12_expression_188 : decode cX12_expression 188 = .ok (.aload_n 0, 1) := by decide +kernel
theorem dX12_expression_189 : decode cX12_expression 189 = .ok (.getfield 239, 3) := by decide +kernel
theorem dX12_expression_192 : decode cX12_expression 192 = .ok (.iaload, 1) := by decide +kernel
theorem dX12_expression_193 : decode cX12_expression 193 = .ok (.invokevirtual 295, 3) := by decide +kernel
theorem dX12_expression_196 : decode cX12_expression 196 = .ok (.aload_n 0, 1) := by decide +kernel
theorem dX12_expression_197 : decode cX12_expression 197 = .ok (.invokevirtual 257, 3) := by decide +kernel
theorem dX12_expression_200 : decode cX12_expression 200 = .ok (.aload_n 0, 1) := by decide +kernel
theorem dX12_expression_201 : decode cX12_expression 201 = .ok (.bipush 7, 2) := by decide +kernel
theorem dX12_expression_203 : decode cX12_expression 203 = .ok (.invokevirtual 254, 3) := by decide +kernel
theorem dX12_expression_206 : decode cX12_expression 206 = .ok (.ifCond .eq 43, 3) := by decide +kernel
theorem dX12_expression_209 : decode cX12_expression 209 = .ok (.aload_n 0, 1) := by decide +kernel
theorem dX12_expression_210 : decode cX12_expression 210 = .ok (.getfield 263, 3) := by decide +kernel
theorem dX12_expression_213 : decode cX12_expression 213 = .ok (.iload_n 1, 1) := by decide +kernel
theorem dX12_expression_214 : decode cX12_expression 214 = .ok (.if_icmp .le 35, 3) := by decide +kernel
theorem dX12_expression_217 : decode cX12_expression 217 = .ok (.aload_n 0, 1) := by decide +kernel
theorem dX12_expression_218 : decode cX12_expression 218 = .ok (.iconst 0, 1) := by decide +kernel
theorem dX12_expression_219 : decode cX12_expression 219 = .ok (.invokevirtual 299, 3) := by decide +kernel
theorem dX12_expression_222 : decode cX12_expression 222 = .ok (.aload_n 0, 1) := by decide +kernel
theorem dX12_expression_223 : decode cX12_expression 223 = .ok (.dup, 1) := by decide +kernel
theorem dX12_expression_224 : decode cX12_expression 224 = .ok (.getfield 292, 3) := by decide +kernel
theorem dX12_expression_227 : decode cX12_expression 227 = .ok (.iconst 1, 1) := by decide +kernel
theorem dX12_expression_228 : decode cX12_expression 228 = .ok (.isub, 1) := by decide +kernel
theorem dX12_expression_229 : decode cX12_expression 229 = .ok (.putfield 292, 3) := by decide +kernel
theorem dX12_expression_232 : decode cX12_expression 232 = .ok (.aload_n 0, 1) := by decide +kernel
theorem dX12_expression_233 : decode cX12_expression 233 = .ok (.dup, 1) := by decide +kernel
theorem dX12_expression_234 : decode cX12_expression 234 = .ok (.getfield 263, 3) := by decide +kernel
theorem dX12_expression_237 : decode cX12_expression 237 = .ok (.iconst 1, 1) := by decide +kernel
theorem dX12_expression_238 : decode cX12_expression 238 = .ok (.isub, 1) := by decide +kernel
theorem dX12_expression_239 : decode cX12_expression 239 = .ok (.putfield 263, 3) := by decide +kernel
theorem dX12_expression_242 : decode cX12_expression 242 = .ok (.aload_n 0, 1) := by decide +kernel
theorem dX12_expression_243 : decode cX12_expression 243 = .ok (.invokevirtual 257, 3) := by decide +kernel
theorem dX12_expression_246 : decode cX12_expression 246 = .ok (.goto (-46), 3) := by decide +kernel
theorem dX12_expression_249 : decode cX12_expression 249 = .ok (.aload_n 0, 1) := by decide +kernel
theorem dX12_expression_250 : decode cX12_expression 250 = .ok (.bipush 8, 2) := by decide +kernel
theorem dX12_expression_252 : decode cX12_expression 252 = .ok (.invokevirtual 254, 3) := by decide +kernel
theorem dX12_expression_255 : decode cX12_expression 255 = .ok (.ifCond .ne 21, 3) := by decide +kernel
theorem dX12_expression_258 : decode cX12_expression 258 = .ok (.aload_n 0, 1) := by decide +kernel
theorem dX12_expression_259 : decode cX12_expression 259 = .ok (.bipush 9, 2) := by decide +kernel
theorem dX12_expression_261 : decode cX12_expression 261 = .ok (.invokevirtual 254, 3) := by decide +kernel
theorem dX12_expression_264 : decode cX12_expression 264 = .ok (.ifCond .ne 12, 3) := by decide +kernel
theorem dX12_expression_267 : decode cX12_expression 267 = .ok (.aload_n 0, 1) := by decide +kernel
theorem dX12_expression_268 : decode cX12_expression 268 = .ok (.bipush 10, 2) := by decide +kernel
theorem dX12_expression_270 : decode cX12_expression 270 = .ok (.invokevirtual 254, 3) := by decide +kernel
theorem dX12_expression_273 : decode cX12_expression 273 = .ok (.ifCond .eq 7, 3) := by decide +kernel
theorem dX12_expression_276 : decode cX12_expression 276 = .ok (.iconst 1, 1) := by decide +kernel
theorem dX12_expression_277 : decode cX12_expression 277 = .ok (.goto 4, 3) := by decide +kernel
theorem dX12_expression_280 : decode cX12_expression 280 = .ok (.iconst 0, 1) := by decide +kernel
theorem dX12_expression_281 : decode cX12_expression 281 = .ok (.istore_n 2, 1) := by decide +kernel
theorem dX12_expression_282 : decode cX12_expression 282 = .ok (.iload_n 2, 1) := by decide +kernel
theorem dX12_expression_283 : decode cX12_expression 283 = .ok (.ifCond .ne 22, 3) := by decide +kernel
theorem dX12_expression_286 : decode cX12_expression 286 = .ok (.aload_n 0, 1) := by decide +kernel
theorem dX12_expression_287 : decode cX12_expression 287 = .ok (.getfield 263, 3) := by decide +kernel
theorem dX12_expression_290 : decode cX12_expression 290 = .ok (.iload_n 1, 1) := by decide +kernel
theorem dX12_expression_291 : decode cX12_expression 291 = .ok (.if_icmp .le 8, 3) := by decide +kernel
theorem dX12_expression_294 : decode cX12_expression 294 = .ok (.aload_n 0, 1) := by decide +kernel
theorem dX12_expression_295 : decode cX12_expression 295 = .ok (.iconst 1, 1) := by decide +kernel
theorem dX12_expression_296 : decode cX12_expression 296 = .ok (.invokevirtual 251, 3) := by decide +kernel
theorem dX12_expression_299 : decode cX12_expression 299 = .ok (.aload_n 0, 1) := by decide +kernel
theorem dX12_expression_300 : decode cX12_expression 300 = .ok (.iconst 0, 1) := by decide +kernel
theorem dX12_expression_301 : decode cX12_expression 301 = .ok (.invokevirtual 299, 3) := by decide +kernel
theorem dX12_expression_304 : decode cX12_expression 304 = .ok (.return_, 1) := by decide +kernel
theorem dX12_expression_305 : decode cX12_expression 305 = .ok (.aload_n 0, 1) := by decide +kernel
theorem dX12_expression_306 : decode cX12_expression 306 = .ok (.getfield 20, 3) := by decide +kernel
theorem dX12_expression_309 : decode cX12_expression 309 = .ok (.aload_n 0, 1) := by decide +kernel
theorem dX12_expression_310 : decode cX12_expression 310 = .ok (.getfield 239, 3) := by decide +kernel
theorem dX12_expression_313 : decode cX12_expression 313 = .ok (.iaload, 1) := by decide +kernel
theorem dX12_expression_314 : decode cX12_expression 314 = .ok (.istore 4, 2) := by decide +kernel
theorem dX12_expression_316 : decode cX12_expression 316 = .ok (.aload_n 0, 1) := by decide +kernel
theorem dX12_expression_317 : decode cX12_expression 317 = .ok (.iload 4, 2) := by decide +kernel
theorem dX12_expression_319 : decode cX12_expression 319 = .ok (.bipush 10, 2) := by decide +kernel
theorem dX12_expression_321 : decode cX12_expression 321 = .ok (.if_icmp .ne 7, 3) := by decide +kernel
theorem dX12_expression_324 : decode cX12_expression 324 = .ok (.iconst 1, 1) := by decide +kernel
theorem dX12_expression_325 : decode cX12_expression 325 = .ok (.goto 4, 3) := by decide +kernel
theorem dX12_expression_328 : decode cX12_expression 328 = .ok (.iconst 0, 1) := by decide +kernel
theorem dX12_expression_329 : decode cX12_expression 329 = .ok (.invokevirtual 299, 3) := by decide +kernel
theorem dX12_expression_332 : decode cX12_expression 332 = .ok (.aload_n 0, 1) := by decide +kernel
theorem dX12_expression_333 : decode cX12_expression 333 = .ok (.getfield 89, 3) := by decide +kernel
theorem dX12_expression_336 : decode cX12_expression 336 = .ok (.aload_n 0, 1) := by decide +kernel
theorem dX12_expression_337 : decode cX12_expression 337 = .ok (.getfield 292, 3) := by decide +kernel
theorem dX12_expression_340 : decode cX12_expression 340 = .ok (.iload 4, 2) := by decide +kernel
theorem dX12_expression_342 : decode cX12_expression 342 = .ok (.iastore, 1) := by decide +kernel
theorem dX12_expression_343 : decode cX12_expression 343 = .ok (.aload_n 0, 1) := by decide +kernel
theorem dX12_expression_344 : decode cX12_expression 344 = .ok (.dup, 1) := by decide +kernel
theorem dX12_expression_345 : decode cX12_expression 345 = .ok (.getfield 292, 3) := by decide +kernel
theorem dX12_expression_348 : decode cX12_expression 348 = .ok (.iconst 1, 1) := by decide +kernel
theorem dX12_expression_349 : decode cX12_expression 349 = .ok (.iadd, 1) := by decide +kernel
theorem dX12_expression_350 : decode cX12_expression 350 = .ok (.putfield 292, 3) := by decide +kernel
theorem dX12_expression_353 : decode cX12_expression 353 = .ok (.aload_n 0, 1) := by decide +kernel
theorem dX12_expression_354 : decode cX12_expression 354 = .ok (.invokevirtual 257, 3) := by decide +kernel
theorem dX12_expression_357 : decode cX12_expression 357 = .ok (.goto (-345), 3) := by decide +kernel
theorem dX12_expression_360 : decode cX12_expression 360 = .ok (.return_, 1) := by decide +kernel
theorem dX12_isPerson_0 : decode cX12_isPerson 0 = .ok (.iload_n 0, 1) := by decide +kernel
theorem dX12_isPerson_1 : decode cX12_isPerson 1 = .ok (.ifCond .lt 13, 3) := by decide +kernel
theorem dX12_isPerson_4 : decode cX12_isPerson 4 = .ok (.iload_n 0, 1) := by decide +kernel
theorem dX12_isPerson_5 : decode cX12_isPerson 5 = .ok (.bipush 12, 2) := by decide +kernel
theorem dX12_isPerson_7 : decode cX12_isPerson 7 = .ok (.if_icmp .ge 7, 3) := by decide +kernel
theorem dX12_isPerson_10 : decode cX12_isPerson 10 = .ok (.iconst 1, 1) := by decide +kernel
theorem dX12_isPerson_11 : decode cX12_isPerson 11 = .ok (.goto 4, 3) := by decide +kernel
theorem dX12_isPerson_14 : decode cX12_isPerson 14 = .ok (.iconst 0, 1) := by decide +kernel
theorem dX12_isPerson_15 : decode cX12_isPerson 15 = .ok (.ireturn, 1) := by decide +kernel
theorem dX12_isBreed_0 : decode cX12_isBreed 0 = .ok (.iload_n 1, 1) := by decide +kernel
theorem dX12_isBreed_1 : decode cX12_isBreed 1 = .ok (.ifCond .lt 15, 3) := by decide +kernel
theorem dX12_isBreed_4 : decode cX12_isBreed 4 = .ok (.iload_n 1, 1) := by decide +kernel
theorem dX12_isBreed_5 : decode cX12_isBreed 5 = .ok (.aload_n 0, 1) := by decide +kernel
theorem dX12_isBreed_6 : decode cX12_isBreed 6 = .ok (.getfield 302, 3) := by decide +kernel
theorem dX12_isBreed_9 : decode cX12_isBreed 9 = .ok (.if_icmp .ge 7, 3) := by decide +kernel
theorem dX12_isBreed_12 : decode cX12_isBreed 12 = .ok (.iconst 1, 1) := by decide +kernel
theorem dX12_isBreed_13 : decode cX12_isBreed 13 = .ok (.goto 4, 3) := by decide +kernel
theorem dX12_isBreed_16 : decode cX12_isBreed 16 = .ok (.iconst 0, 1) := by decide +kernel
theorem dX12_isBreed_17 : decode cX12_isBreed 17 = .ok (.ireturn, 1) := by decide +kernel
theorem dX12_isDog_0 : decode cX12_isDog 0 = .ok (.iload_n 1, 1) := by decide +kernel
theorem dX12_isDog_1 : decode cX12_isDog 1 = .ok (.ifCond .lt 15, 3) := by decide +kernel
theorem dX12_isDog_4 : decode cX12_isDog 4 = .ok (.iload_n 1, 1) := by decide +kernel
theorem dX12_isDog_5 : decode cX12_isDog 5 = .ok (.aload_n 0, 1) := by decide +kernel
theorem dX12_isDog_6 : decode cX12_isDog 6 = .ok (.getfield 305, 3) := by decide +kernel
theorem dX12_isDog_9 : decode cX12_isDog 9 = .ok (.if_icmp .ge 7, 3) := by decide +kernel
theorem dX12_isDog_12 : decode cX12_isDog 12 = .ok (.iconst 1, 1) := by decide +kernel
theorem dX12_isDog_13 : decode cX12_isDog 13 = .ok (.goto 4, 3) := by decide +kernel
theorem dX12_isDog_16 : decode cX12_isDog 16 = .ok (.iconst 0, 1) := by decide +kernel
theorem dX12_isDog_17 : decode cX12_isDog 17 = .ok (.ireturn, 1) := by decide +kernel
theorem dX12_isShow_0 : decode cX12_isShow 0 = .ok (.iload_n 1, 1) := by decide +kernel
theorem dX12_isShow_1 : decode cX12_isShow 1 = .ok (.ifCond .lt 15, 3) := by decide +kernel
theorem dX12_isShow_4 : decode cX12_isShow 4 = .ok (.iload_n 1, 1) := by decide +kernel
theorem dX12_isShow_5 : decode cX12_isShow 5 = .ok (.aload_n 0, 1) := by decide +kernel
theorem dX12_isShow_6 : decode cX12_isShow 6 = .ok (.getfield 308, 3) := by decide +kernel
theorem dX12_isShow_9 : decode cX12_isShow 9 = .ok (.if_icmp .ge 7, 3) := by decide +kernel
theorem dX12_isShow_12 : decode cX12_isShow 12 = .ok (.iconst 1, 1) := by decide +kernel
theorem dX12_isShow_13 : decode cX12_isShow 13 = .ok (.goto 4, 3) := by decide +kernel
theorem dX12_isShow_16 : decode cX12_isShow 16 = .ok (.iconst 0, 1) := by decide +kernel
theorem dX12_isShow_17 : decode cX12_isShow 17 = .ok (.ireturn, 1) := by decide +kernel
theorem dX12_isDay_0 : decode cX12_isDay 0 = .ok (.iload_n 0, 1) := by decide +kernel
theorem dX12_isDay_1 : decode cX12_isDay 1 = .ok (.ifCond .lt 14, 3) := by decide +kernel
theorem dX12_isDay_4 : decode cX12_isDay 4 = .ok (.iload_n 0, 1) := by decide +kernel
theorem dX12_isDay_5 : decode cX12_isDay 5 = .ok (.sipush 9999, 3) := by decide +kernel
theorem dX12_isDay_8 : decode cX12_isDay 8 = .ok (.if_icmp .gt 7, 3) := by decide +kernel
theorem dX12_isDay_11 : decode cX12_isDay 11 = .ok (.iconst 1, 1) := by decide +kernel
theorem dX12_isDay_12 : decode cX12_isDay 12 = .ok (.goto 4, 3) := by decide +kernel
theorem dX12_isDay_15 : decode cX12_isDay 15 = .ok (.iconst 0, 1) := by decide +kernel
theorem dX12_isDay_16 : decode cX12_isDay 16 = .ok (.ireturn, 1) := by decide +kernel
theorem dX12_isKnown_0 : decode cX12_isKnown 0 = .ok (.iload_n 1, 1) := by decide +kernel
theorem dX12_isKnown_1 : decode cX12_isKnown 1 = .ok (.ifCond .lt 15, 3) := by decide +kernel
theorem dX12_isKnown_4 : decode cX12_isKnown 4 = .ok (.iload_n 1, 1) := by decide +kernel
theorem dX12_isKnown_5 : decode cX12_isKnown 5 = .ok (.aload_n 0, 1) := by decide +kernel
theorem dX12_isKnown_6 : decode cX12_isKnown 6 = .ok (.getfield 311, 3) := by decide +kernel
theorem dX12_isKnown_9 : decode cX12_isKnown 9 = .ok (.if_icmp .gt 7, 3) := by decide +kernel
theorem dX12_isKnown_12 : decode cX12_isKnown 12 = .ok (.iconst 1, 1) := by decide +kernel
theorem dX12_isKnown_13 : decode cX12_isKnown 13 = .ok (.goto 4, 3) := by decide +kernel
theorem dX12_isKnown_16 : decode cX12_isKnown 16 = .ok (.iconst 0, 1) := by decide +kernel
theorem dX12_isKnown_17 : decode cX12_isKnown 17 = .ok (.ireturn, 1) := by decide +kernel
set_option maxRecDepth 20000 in
theorem ggX12_kin_X12_isPerson : GoodIn wsX12_kin wsX12_isPerson := goodIn_r _ [5] (by decide +kernel) (by decide +kernel)
set_option maxRecDepth 20000 in
theorem gX12_kin_X12_isPerson : GoodIn wsX12_kin (va_wsS RX12 314 yX12_isPerson wsX12_isPerson) := goodIn_app (goodIn_of _ (by decide +kernel)) ggX12_kin_X12_isPerson
theorem dX12_kin_0 : decode cX12_kin 0 = .ok (.iload_n 1, 1) := by decide +kernel
theorem dX12_kin_1 : decode cX12_kin 1 = .ok (.invokestatic 314, 3) := by decide +kernel
theorem dX12_kin_4 : decode cX12_kin 4 = .ok (.ifCond .eq 29, 3) := by decide +kernel
theorem dX12_kin_7 : decode cX12_kin 7 = .ok (.iload_n 2, 1) := by decide +kernel
theorem dX12_kin_8 : decode cX12_kin 8 = .ok (.invokestatic 314, 3) := by decide +kernel
theorem dX12_kin_11 : decode cX12_kin 11 = .ok (.ifCond .eq 22, 3) := by decide +kernel
theorem dX12_kin_14 : decode cX12_kin 14 = .ok (.iload_n 1, 1) := by decide +kernel
theorem dX12_kin_15 : decode cX12_kin 15 = .ok (.iload_n 2, 1) := by decide +kernel
theorem dX12_kin_16 : decode cX12_kin 16 = .ok (.if_icmp .eq 17, 3) := by decide +kernel
theorem dX12_kin_19 : decode cX12_kin 19 = .ok (.aload_n 0, 1) := by decide +kernel
theorem dX12_kin_20 : decode cX12_kin 20 = .ok (.getfield 92, 3) := by decide +kernel
theorem dX12_kin_23 : decode cX12_kin 23 = .ok (.bipush 12, 2) := by decide +kernel
theorem dX12_kin_25 : decode cX12_kin 25 = .ok (.iload_n 1, 1) := by decide +kernel
theorem dX12_kin_26 : decode cX12_kin 26 = .ok (.imul, 1) := by decide +kernel
theorem dX12_kin_27 : decode cX12_kin 27 = .ok (.iload_n 2, 1) := by decide +kernel
theorem dX12_kin_28 : decode cX12_kin 28 = .ok (.iadd, 1) := by decide +kernel
theorem dX12_kin_29 : decode cX12_kin 29 = .ok (.baload, 1) := by decide +kernel
theorem dX12_kin_30 : decode cX12_kin 30 = .ok (.ifCond .eq 5, 3) := by decide +kernel
theorem dX12_kin_33 : decode cX12_kin 33 = .ok (.iconst 0, 1) := by decide +kernel
theorem dX12_kin_34 : decode cX12_kin 34 = .ok (.ireturn, 1) := by decide +kernel
theorem dX12_kin_35 : decode cX12_kin 35 = .ok (.aload_n 0, 1) := by decide +kernel
theorem dX12_kin_36 : decode cX12_kin 36 = .ok (.getfield 92, 3) := by decide +kernel
theorem dX12_kin_39 : decode cX12_kin 39 = .ok (.bipush 12, 2) := by decide +kernel
theorem dX12_kin_41 : decode cX12_kin 41 = .ok (.iload_n 1, 1) := by decide +kernel
theorem dX12_kin_42 : decode cX12_kin 42 = .ok (.imul, 1) := by decide +kernel
theorem dX12_kin_43 : decode cX12_kin 43 = .ok (.iload_n 2, 1) := by decide +kernel
theorem dX12_kin_44 : decode cX12_kin 44 = .ok (.iadd, 1) := by decide +kernel
theorem dX12_kin_45 : decode cX12_kin 45 = .ok (.iconst 1, 1) := by decide +kernel
theorem dX12_kin_46 : decode cX12_kin 46 = .ok (.bastore, 1) := by decide +kernel
theorem dX12_kin_47 : decode cX12_kin 47 = .ok (.aload_n 0, 1) := by decide +kernel
theorem dX12_kin_48 : decode cX12_kin 48 = .ok (.getfield 92, 3) := by decide +kernel
theorem dX12_kin_51 : decode cX12_kin 51 = .ok (.bipush 12, 2) := by decide +kernel
theorem dX12_kin_53 : decode cX12_kin 53 = .ok (.iload_n 2, 1) := by decide +kernel
theorem dX12_kin_54 : decode cX12_kin 54 = .ok (.imul, 1) := by decide +kernel
theorem dX12_kin_55 : decode cX12_kin 55 = .ok (.iload_n 1, 1) := by decide +kernel
theorem dX12_kin_56 : decode cX12_kin 56 = .ok (.iadd, 1) := by decide +kernel
theorem dX12_kin_57 : decode cX12_kin 57 = .ok (.iconst 1, 1) := by decide +kernel
theorem dX12_kin_58 : decode cX12_kin 58 = .ok (.bastore, 1) := by decide +kernel
theorem dX12_kin_59 : decode cX12_kin 59 = .ok (.iconst 1, 1) := by decide +kernel
theorem dX12_kin_60 : decode cX12_kin 60 = .ok (.ireturn, 1) := by decide +kernel
theorem dX12_breed_0 : decode cX12_breed 0 = .ok (.aload_n 0, 1) := by decide +kernel
theorem dX12_breed_1 : decode cX12_breed 1 = .ok (.getfield 302, 3) := by decide +kernel
theorem dX12_breed_4 : decode cX12_breed 4 = .ok (.bipush 6, 2) := by decide +kernel
theorem dX12_breed_6 : decode cX12_breed 6 = .ok (.if_icmp .eq 40, 3) := by decide +kernel
theorem dX12_breed_9 : decode cX12_breed 9 = .ok (.iload_n 1, 1) := by decide +kernel
theorem dX12_breed_10 : decode cX12_breed 10 = .ok (.ifCond .lt 36, 3) := by decide +kernel
theorem dX12_breed_13 : decode cX12_breed 13 = .ok (.iload_n 1, 1) := by decide +kernel
theorem dX12_breed_14 : decode cX12_breed 14 = .ok (.iconst 2, 1) := by decide +kernel
theorem dX12_breed_15 : decode cX12_breed 15 = .ok (.if_icmp .gt 31, 3) := by decide +kernel
theorem dX12_breed_18 : decode cX12_breed 18 = .ok (.iload_n 2, 1) := by decide +kernel
theorem dX12_breed_19 : decode cX12_breed 19 = .ok (.iconst 1, 1) := by decide +kernel
theorem dX12_breed_20 : decode cX12_breed 20 = .ok (.if_icmp .lt 26, 3) := by decide +kernel
theorem dX12_breed_23 : decode cX12_breed 23 = .ok (.iload_n 2, 1) := by decide +kernel
theorem dX12_breed_24 : decode cX12_breed 24 = .ok (.bipush 9, 2) := by decide +kernel
theorem dX12_breed_26 : decode cX12_breed 26 = .ok (.if_icmp .gt 20, 3) := by decide +kernel
theorem dX12_breed_29 : decode cX12_breed 29 = .ok (.iload_n 3, 1) := by decide +kernel
theorem dX12_breed_30 : decode cX12_breed 30 = .ok (.ifCond .lt 16, 3) := by decide +kernel
theorem dX12_breed_33 : decode cX12_breed 33 = .ok (.iload_n 3, 1) := by decide +kernel
theorem dX12_breed_34 : decode cX12_breed 34 = .ok (.iload 4, 2) := by decide +kernel
theorem dX12_breed_36 : decode cX12_breed 36 = .ok (.if_icmp .gt 10, 3) := by decide +kernel
theorem dX12_breed_39 : decode cX12_breed 39 = .ok (.iload 4, 2) := by decide +kernel
theorem dX12_breed_41 : decode cX12_breed 41 = .ok (.bipush 99, 2) := by decide +kernel
theorem dX12_breed_43 : decode cX12_breed 43 = .ok (.if_icmp .le 5, 3) := by decide +kernel
theorem dX12_breed_46 : decode cX12_breed 46 = .ok (.iconst (-1), 1) := by decide +kernel
theorem dX12_breed_47 : decode cX12_breed 47 = .ok (.ireturn, 1) := by decide +kernel
theorem dX12_breed_48 : decode cX12_breed 48 = .ok (.aload_n 0, 1) := by decide +kernel
theorem dX12_breed_49 : decode cX12_breed 49 = .ok (.getfield 98, 3) := by decide +kernel
theorem dX12_breed_52 : decode cX12_breed 52 = .ok (.aload_n 0, 1) := by decide +kernel
theorem dX12_breed_53 : decode cX12_breed 53 = .ok (.getfield 302, 3) := by decide +kernel
theorem dX12_breed_56 : decode cX12_breed 56 = .ok (.iload_n 1, 1) := by decide +kernel
theorem dX12_breed_57 : decode cX12_breed 57 = .ok (.iastore, 1) := by decide +kernel
theorem dX12_breed_58 : decode cX12_breed 58 = .ok (.aload_n 0, 1) := by decide +kernel
theorem dX12_breed_59 : decode cX12_breed 59 = .ok (.getfield 101, 3) := by decide +kernel
theorem dX12_breed_62 : decode cX12_breed 62 = .ok (.aload_n 0, 1) := by decide +kernel
theorem dX12_breed_63 : decode cX12_breed 63 = .ok (.getfield 302, 3) := by decide +kernel
theorem dX12_breed_66 : decode cX12_breed 66 = .ok (.iload_n 2, 1) := by decide +kernel
theorem dX12_breed_67 : decode cX12_breed 67 = .ok (.iastore, 1) := by decide +kernel
theorem dX12_breed_68 : decode cX12_breed 68 = .ok (.aload_n 0, 1) := by decide +kernel
theorem dX12_breed_69 : decode cX12_breed 69 = .ok (.getfield 104, 3) := by decide +kernel
theorem dX12_breed_72 : decode cX12_breed 72 = .ok (.aload_n 0, 1) := by decide +kernel
theorem dX12_breed_73 : decode cX12_breed 73 = .ok (.getfield 302, 3) := by decide +kernel
theorem dX12_breed_76 : decode cX12_breed 76 = .ok (.iload_n 3, 1) := by decide +kernel
theorem dX12_breed_77 : decode cX12_breed 77 = .ok (.iastore, 1) := by decide +kernel
theorem dX12_breed_78 : decode cX12_breed 78 = .ok (.aload_n 0, 1) := by decide +kernel
theorem dX12_breed_79 : decode cX12_breed 79 = .ok (.getfield 107, 3) := by decide +kernel
theorem dX12_breed_82 : decode cX12_breed 82 = .ok (.aload_n 0, 1) := by decide +kernel
theorem dX12_breed_83 : decode cX12_breed 83 = .ok (.getfield 302, 3) := by decide +kernel
theorem dX12_breed_86 : decode cX12_breed 86 = .ok (.iload 4, 2) := by decide +kernel
theorem dX12_breed_88 : decode cX12_breed 88 = .ok (.iastore, 1) := by decide +kernel
theorem dX12_breed_89 : decode cX12_breed 89 = .ok (.aload_n 0, 1) := by decide +kernel
theorem dX12_breed_90 : decode cX12_breed 90 = .ok (.dup, 1) := by decide +kernel
theorem dX12_breed_91 : decode cX12_breed 91 = .ok (.getfield 302, 3) := by decide +kernel
theorem dX12_breed_94 : decode cX12_breed 94 = .ok (.iconst 1, 1) := by decide +kernel
theorem dX12_breed_95 : decode cX12_breed 95 = .ok (.iadd, 1) := by decide +kernel
theorem dX12_breed_96 : decode cX12_breed 96 = .ok (.putfield 302, 3) := by decide +kernel
theorem dX12_breed_99 : decode cX12_breed 99 = .ok (.aload_n 0, 1) := by decide +kernel
theorem dX12_breed_100 : decode cX12_breed 100 = .ok (.getfield 302, 3) := by decide +kernel
theorem dX12_breed_103 : decode cX12_breed 103 = .ok (.iconst 1, 1) := by decide +kernel
theorem dX12_breed_104 : decode cX12_breed 104 = .ok (.isub, 1) := by decide +kernel
theorem dX12_breed_105 : decode cX12_breed 105 = .ok (.ireturn, 1) := by decide +kernel
set_option maxRecDepth 20000 in
theorem ggX12_dog_X12_isBreed : GoodIn wsX12_dog wsX12_isBreed := goodIn_r _ [11, 12, 19, 20, 21, 22, 23, 24, 25, 26, 27, 28, 29, 30, 31, 32, 33, 34, 35, 36, 37, 38, 39, 40, 41, 42, 43, 44, 45, 46, 47, 48, 49, 50, 51, 52, 53, 54, 55, 56, 57, 58, 59, 60, 61, 62, 63, 64, 65, 66, 67, 68, 69, 70, 71, 72, 73, 74, 75, 76, 77, 78, 79, 80, 81, 82, 83, 84, 85, 86, 87, 88, 89, 90, 91, 92, 93, 94, 95] (by decide +kernel) (by decide +kernel)
set_option maxRecDepth 20000 in
theorem gX12_dog_X12_isBreed : GoodIn wsX12_dog (wsV RX12 317 RX12 yX12_isBreed wsX12_isBreed) := goodIn_app (goodIn_of _ (by decide +kernel)) ggX12_dog_X12_isBreed
set_option maxRecDepth 20000 in
theorem ggX12_dog_X12_isDay : GoodIn wsX12_dog wsX12_isDay := goodIn_r _ [15] (by decide +kernel) (by decide +kernel)
set_option maxRecDepth 20000 in
theorem gX12_dog_X12_isDay : GoodIn wsX12_dog (va_wsS RX12 320 yX12_isDay wsX12_isDay) := goodIn_app (goodIn_of _ (by decide +kernel)) ggX12_dog_X12_isDay
set_option maxRecDepth 20000 in
theorem ggX12_dog_X12_isPerson : GoodIn wsX12_dog wsX12_isPerson := goodIn_r _ [18] (by decide +kernel) (by decide +kernel)
set_option maxRecDepth 20000 in
theorem gX12_dog_X12_isPerson : GoodIn wsX12_dog (va_wsS RX12 314 yX12_isPerson wsX12_isPerson) := goodIn_app (goodIn_of _ (by decide +kernel)) ggX12_dog_X12_isPerson
theorem dX12_dog_0 : decode cX12_dog 0 = .ok (.aload_n 0, 1) := by decide +kernel
theorem dX12_dog_1 : decode cX12_dog 1 = .ok (.getfield 305, 3) := by decide +kernel
theorem dX12_dog_4 : decode cX12_dog 4 = .ok (.bipush 20, 2) := by decide +kernel
theorem dX12_dog_6 : decode cX12_dog 6 = .ok (.if_icmp .eq 43, 3) := by decide +kernel
theorem dX12_dog_9 : decode cX12_dog 9 = .ok (.aload_n 0, 1) := by decide +kernel
theorem dX12_dog_10 : decode cX12_dog 10 = .ok (.iload_n 1, 1) := by decide +kernel
theorem dX12_dog_11 : decode cX12_dog 11 = .ok (.invokevirtual 317, 3) := by decide +kernel
theorem dX12_dog_14 : decode cX12_dog 14 = .ok (.ifCond .eq 35, 3) := by decide +kernel
theorem dX12_dog_17 : decode cX12_dog 17 = .ok (.iload_n 2, 1) := by decide +kernel
theorem dX12_dog_18 : decode cX12_dog 18 = .ok (.invokestatic 320, 3) := by decide +kernel
theorem dX12_dog_21 : decode cX12_dog 21 = .ok (.ifCond .eq 28, 3) := by decide +kernel
theorem dX12_dog_24 : decode cX12_dog 24 = .ok (.iload_n 3, 1) := by decide +kernel
theorem dX12_dog_25 : decode cX12_dog 25 = .ok (.ifCond .lt 24, 3) := by decide +kernel
theorem dX12_dog_28 : decode cX12_dog 28 = .ok (.iload_n 3, 1) := by decide +kernel
theorem dX12_dog_29 : decode cX12_dog 29 = .ok (.iconst 1, 1) := by decide +kernel
theorem dX12_dog_30 : decode cX12_dog 30 = .ok (.if_icmp .gt 19, 3) := by decide +kernel
theorem dX12_dog_33 : decode cX12_dog 33 = .ok (.iload 4, 2) := by decide +kernel
theorem dX12_dog_35 : decode cX12_dog 35 = .ok (.invokestatic 314, 3) := by decide +kernel
theorem dX12_dog_38 : decode cX12_dog 38 = .ok (.ifCond .eq 11, 3) := by decide +kernel
theorem dX12_dog_41 : decode cX12_dog 41 = .ok (.iload 5, 2) := by decide +kernel
theorem dX12_dog_43 : decode cX12_dog 43 = .ok (.invokestatic 314, 3) := by decide +kernel
theorem dX12_dog_46 : decode cX12_dog 46 = .ok (.ifCond .ne 5, 3) := by decide +kernel
theorem dX12_dog_49 : decode cX12_dog 49 = .ok (.iconst (-1), 1) := by decide +kernel
theorem dX12_dog_50 : decode cX12_dog 50 = .ok (.ireturn, 1) := by decide +kernel
theorem dX12_dog_51 : decode cX12_dog 51 = .ok (.aload_n 0, 1) := by decide +kernel
theorem dX12_dog_52 : decode cX12_dog 52 = .ok (.getfield 110, 3) := by decide +kernel
theorem dX12_dog_55 : decode cX12_dog 55 = .ok (.aload_n 0, 1) := by decide +kernel
theorem dX12_dog_56 : decode cX12_dog 56 = .ok (.getfield 305, 3) := by decide +kernel
theorem dX12_dog_59 : decode cX12_dog 59 = .ok (.iload_n 1, 1) := by decide +kernel
theorem dX12_dog_60 : decode cX12_dog 60 = .ok (.iastore, 1) := by decide +kernel
theorem dX12_dog_61 : decode cX12_dog 61 = .ok (.aload_n 0, 1) := by decide +kernel
theorem dX12_dog_62 : decode cX12_dog 62 = .ok (.getfield 113, 3) := by decide +kernel
theorem dX12_dog_65 : decode cX12_dog 65 = .ok (.aload_n 0, 1) := by decide +kernel
theorem dX12_dog_66 : decode cX12_dog 66 = .ok (.getfield 305, 3) := by decide +kernel
theorem dX12_dog_69 : decode cX12_dog 69 = .ok (.iload_n 2, 1) := by decide +kernel
theorem dX12_dog_70 : decode cX12_dog 70 = .ok (.iastore, 1) := by decide +kernel
theorem dX12_dog_71 : decode cX12_dog 71 = .ok (.aload_n 0, 1) := by decide +kernel
theorem dX12_dog_72 : decode cX12_dog 72 = .ok (.getfield 116, 3) := by decide +kernel
theorem dX12_dog_75 : decode cX12_dog 75 = .ok (.aload_n 0, 1) := by decide +kernel
theorem dX12_dog_76 : decode cX12_dog 76 = .ok (.getfield 305, 3) := by decide +kernel
theorem dX12_dog_79 : decode cX12_dog 79 = .ok (.iload_n 3, 1) := by decide +kernel
theorem dX12_dog_80 : decode cX12_dog 80 = .ok (.iastore, 1) := by decide +kernel
theorem dX12_dog_81 : decode cX12_dog 81 = .ok (.aload_n 0, 1) := by decide +kernel
theorem dX12_dog_82 : decode cX12_dog 82 = .ok (.getfield 119, 3) := by decide +kernel
theorem dX12_dog_85 : decode cX12_dog 85 = .ok (.aload_n 0, 1) := by decide +kernel
theorem dX12_dog_86 : decode cX12_dog 86 = .ok (.getfield 305, 3) := by decide +kernel
