/-! the law's instructions -/
theorem dL_law_459 : decode cL_law 459 = .ok (.aload 4, 2) := by decide +kernel
theorem dL_law_461 : decode cL_law 461 = .ok (.iload 17, 2) := by decide +kernel
theorem dL_law_463 : decode cL_law 463 = .ok (.iload 16, 2) := by decide +kernel
theorem dL_law_465 : decode cL_law 465 = .ok (.iastore, 1) := by decide +kernel
theorem dL_law_466 : decode cL_law 466 = .ok (.aload 4, 2) := by decide +kernel
theorem dL_law_468 : decode cL_law 468 = .ok (.bipush 6, 2) := by decide +kernel
theorem dL_law_470 : decode cL_law 470 = .ok (.iload 17, 2) := by decide +kernel
theorem dL_law_472 : decode cL_law 472 = .ok (.aload 4, 2) := by decide +kernel
theorem dL_law_474 : decode cL_law 474 = .ok (.bipush 6, 2) := by decide +kernel
theorem dL_law_476 : decode cL_law 476 = .ok (.iaload, 1) := by decide +kernel
theorem dL_law_477 : decode cL_law 477 = .ok (.if_icmp .ne 10, 3) := by decide +kernel
theorem dL_law_480 : decode cL_law 480 = .ok (.iload 17, 2) := by decide +kernel
theorem dL_law_482 : decode cL_law 482 = .ok (.iconst 1, 1) := by decide +kernel
theorem dL_law_483 : decode cL_law 483 = .ok (.iadd, 1) := by decide +kernel
theorem dL_law_484 : decode cL_law 484 = .ok (.goto 8, 3) := by decide +kernel
theorem dL_law_487 : decode cL_law 487 = .ok (.aload 4, 2) := by decide +kernel
theorem dL_law_489 : decode cL_law 489 = .ok (.bipush 6, 2) := by decide +kernel
theorem dL_law_491 : decode cL_law 491 = .ok (.iaload, 1) := by decide +kernel
theorem dL_law_492 : decode cL_law 492 = .ok (.iastore, 1) := by decide +kernel
theorem dL_law_493 : decode cL_law 493 = .ok (.aload_n 1, 1) := by decide +kernel
theorem dL_law_494 : decode cL_law 494 = .ok (.iload 17, 2) := by decide +kernel
theorem dL_law_496 : decode cL_law 496 = .ok (.iload 16, 2) := by decide +kernel
theorem dL_law_498 : decode cL_law 498 = .ok (.invokevirtual 144, 3) := by decide +kernel
theorem dL_law_501 : decode cL_law 501 = .ok (.iload 18, 2) := by decide +kernel
theorem dL_law_503 : decode cL_law 503 = .ok (.ifCond .eq 11, 3) := by decide +kernel
theorem dL_law_506 : decode cL_law 506 = .ok (.aload 4, 2) := by decide +kernel
theorem dL_law_508 : decode cL_law 508 = .ok (.bipush 6, 2) := by decide +kernel
theorem dL_law_510 : decode cL_law 510 = .ok (.iaload, 1) := by decide +kernel
theorem dL_law_511 : decode cL_law 511 = .ok (.goto 5, 3) := by decide +kernel
theorem dL_law_514 : decode cL_law 514 = .ok (.iload 13, 2) := by decide +kernel
theorem dL_law_516 : decode cL_law 516 = .ok (.if_icmp .ne 7, 3) := by decide +kernel
theorem dL_law_519 : decode cL_law 519 = .ok (.iconst 1, 1) := by decide +kernel
theorem dL_law_520 : decode cL_law 520 = .ok (.goto 4, 3) := by decide +kernel
theorem dL_law_523 : decode cL_law 523 = .ok (.iconst 0, 1) := by decide +kernel
theorem dL_law_524 : decode cL_law 524 = .ok (.istore 14, 2) := by decide +kernel
theorem dL_law_526 : decode cL_law 526 = .ok (.goto 1208, 3) := by decide +kernel
theorem dL_law_529 : decode cL_law 529 = .ok (.iload 10, 2) := by decide +kernel
theorem dL_law_531 : decode cL_law 531 = .ok (.iconst 5, 1) := by decide +kernel
theorem dL_law_532 : decode cL_law 532 = .ok (.if_icmp .ne 76, 3) := by decide +kernel
theorem dL_law_535 : decode cL_law 535 = .ok (.iload 9, 2) := by decide +kernel
theorem dL_law_537 : decode cL_law 537 = .ok (.bipush 11, 2) := by decide +kernel
theorem dL_law_539 : decode cL_law 539 = .ok (.ishr, 1) := by decide +kernel
theorem dL_law_540 : decode cL_law 540 = .ok (.iconst 3, 1) := by decide +kernel
theorem dL_law_541 : decode cL_law 541 = .ok (.invokestatic 74, 3) := by decide +kernel
theorem dL_law_544 : decode cL_law 544 = .ok (.ifCond .ne 64, 3) := by decide +kernel
theorem dL_law_547 : decode cL_law 547 = .ok (.aload_n 1, 1) := by decide +kernel
theorem dL_law_548 : decode cL_law 548 = .ok (.invokevirtual 147, 3) := by decide +kernel
theorem dL_law_551 : decode cL_law 551 = .ok (.aload 4, 2) := by decide +kernel
theorem dL_law_553 : decode cL_law 553 = .ok (.bipush 6, 2) := by decide +kernel
theorem dL_law_555 : decode cL_law 555 = .ok (.iaload, 1) := by decide +kernel
theorem dL_law_556 : decode cL_law 556 = .ok (.ifCond .ne 8, 3) := by decide +kernel
theorem dL_law_559 : decode cL_law 559 = .ok (.bipush (-3), 2) := by decide +kernel
theorem dL_law_561 : decode cL_law 561 = .ok (.goto 10, 3) := by decide +kernel
theorem dL_law_564 : decode cL_law 564 = .ok (.aload 4, 2) := by decide +kernel
theorem dL_law_566 : decode cL_law 566 = .ok (.bipush 6, 2) := by decide +kernel
theorem dL_law_568 : decode cL_law 568 = .ok (.iaload, 1) := by decide +kernel
theorem dL_law_569 : decode cL_law 569 = .ok (.iconst 1, 1) := by decide +kernel
theorem dL_law_570 : decode cL_law 570 = .ok (.isub, 1) := by decide +kernel
theorem dL_law_571 : decode cL_law 571 = .ok (.if_icmp .ne 7, 3) := by decide +kernel
theorem dL_law_574 : decode cL_law 574 = .ok (.iconst 1, 1) := by decide +kernel
theorem dL_law_575 : decode cL_law 575 = .ok (.goto 4, 3) := by decide +kernel
theorem dL_law_578 : decode cL_law 578 = .ok (.iconst 0, 1) := by decide +kernel
theorem dL_law_579 : decode cL_law 579 = .ok (.istore 14, 2) := by decide +kernel
theorem dL_law_581 : decode cL_law 581 = .ok (.aload 4, 2) := by decide +kernel
theorem dL_law_583 : decode cL_law 583 = .ok (.bipush 6, 2) := by decide +kernel
theorem dL_law_585 : decode cL_law 585 = .ok (.aload 4, 2) := by decide +kernel
theorem dL_law_587 : decode cL_law 587 = .ok (.bipush 6, 2) := by decide +kernel
theorem dL_law_589 : decode cL_law 589 = .ok (.iaload, 1) := by decide +kernel
theorem dL_law_590 : decode cL_law 590 = .ok (.ifCond .ne 7, 3) := by decide +kernel
theorem dL_law_593 : decode cL_law 593 = .ok (.iconst 0, 1) := by decide +kernel
theorem dL_law_594 : decode cL_law 594 = .ok (.goto 10, 3) := by decide +kernel
theorem dL_law_597 : decode cL_law 597 = .ok (.aload 4, 2) := by decide +kernel
theorem dL_law_599 : decode cL_law 599 = .ok (.bipush 6, 2) := by decide +kernel
theorem dL_law_601 : decode cL_law 601 = .ok (.iaload, 1) := by decide +kernel
theorem dL_law_602 : decode cL_law 602 = .ok (.iconst 1, 1) := by decide +kernel
theorem dL_law_603 : decode cL_law 603 = .ok (.isub, 1) := by decide +kernel
theorem dL_law_604 : decode cL_law 604 = .ok (.iastore, 1) := by decide +kernel
theorem dL_law_605 : decode cL_law 605 = .ok (.goto 1129, 3) := by decide +kernel
theorem dL_law_608 : decode cL_law 608 = .ok (.aload_n 2, 1) := by decide +kernel
theorem dL_law_609 : decode cL_law 609 = .ok (.iload 11, 2) := by decide +kernel
theorem dL_law_611 : decode cL_law 611 = .ok (.laload, 1) := by decide +kernel
theorem dL_law_612 : decode cL_law 612 = .ok (.lconst 0, 1) := by decide +kernel
theorem dL_law_613 : decode cL_law 613 = .ok (.lcmp, 1) := by decide +kernel
theorem dL_law_614 : decode cL_law 614 = .ok (.ifCond .ne 71, 3) := by decide +kernel
theorem dL_law_617 : decode cL_law 617 = .ok (.aload_n 1, 1) := by decide +kernel
theorem dL_law_618 : decode cL_law 618 = .ok (.iload 11, 2) := by decide +kernel
theorem dL_law_620 : decode cL_law 620 = .ok (.iconst 0, 1) := by decide +kernel
theorem dL_law_621 : decode cL_law 621 = .ok (.invokevirtual 150, 3) := by decide +kernel
theorem dL_law_624 : decode cL_law 624 = .ok (.iload 13, 2) := by decide +kernel
theorem dL_law_626 : decode cL_law 626 = .ok (.if_icmp .ne 53, 3) := by decide +kernel
theorem dL_law_629 : decode cL_law 629 = .ok (.aload_n 1, 1) := by decide +kernel
theorem dL_law_630 : decode cL_law 630 = .ok (.iload 11, 2) := by decide +kernel
theorem dL_law_632 : decode cL_law 632 = .ok (.invokevirtual 153, 3) := by decide +kernel
theorem dL_law_635 : decode cL_law 635 = .ok (.iload 13, 2) := by decide +kernel
theorem dL_law_637 : decode cL_law 637 = .ok (.if_icmp .ne 42, 3) := by decide +kernel
theorem dL_law_640 : decode cL_law 640 = .ok (.aload_n 1, 1) := by decide +kernel
theorem dL_law_641 : decode cL_law 641 = .ok (.iload 11, 2) := by decide +kernel
theorem dL_law_643 : decode cL_law 643 = .ok (.invokevirtual 156, 3) := by decide +kernel
theorem dL_law_646 : decode cL_law 646 = .ok (.iload 13, 2) := by decide +kernel
theorem dL_law_648 : decode cL_law 648 = .ok (.if_icmp .ne 31, 3) := by decide +kernel
theorem dL_law_651 : decode cL_law 651 = .ok (.aload_n 1, 1) := by decide +kernel
theorem dL_law_652 : decode cL_law 652 = .ok (.iload 11, 2) := by decide +kernel
theorem dL_law_654 : decode cL_law 654 = .ok (.invokevirtual 159, 3) := by decide +kernel
theorem dL_law_657 : decode cL_law 657 = .ok (.iload 13, 2) := by decide +kernel
theorem dL_law_659 : decode cL_law 659 = .ok (.if_icmp .ne 20, 3) := by decide +kernel
theorem dL_law_662 : decode cL_law 662 = .ok (.aload_n 1, 1) := by decide +kernel
theorem dL_law_663 : decode cL_law 663 = .ok (.iload 11, 2) := by decide +kernel
theorem dL_law_665 : decode cL_law 665 = .ok (.iconst 0, 1) := by decide +kernel
theorem dL_law_666 : decode cL_law 666 = .ok (.iconst 1, 1) := by decide +kernel
theorem dL_law_667 : decode cL_law 667 = .ok (.invokevirtual 162, 3) := by decide +kernel
theorem dL_law_670 : decode cL_law 670 = .ok (.iload 13, 2) := by decide +kernel
theorem dL_law_672 : decode cL_law 672 = .ok (.if_icmp .ne 7, 3) := by decide +kernel
theorem dL_law_675 : decode cL_law 675 = .ok (.iconst 1, 1) := by decide +kernel
theorem dL_law_676 : decode cL_law 676 = .ok (.goto 4, 3) := by decide +kernel
theorem dL_law_679 : decode cL_law 679 = .ok (.iconst 0, 1) := by decide +kernel
theorem dL_law_680 : decode cL_law 680 = .ok (.istore 14, 2) := by decide +kernel
theorem dL_law_682 : decode cL_law 682 = .ok (.goto 1052, 3) := by decide +kernel
theorem dL_law_685 : decode cL_law 685 = .ok (.iload 10, 2) := by decide +kernel
theorem dL_law_687 : decode cL_law 687 = .ok (.bipush 6, 2) := by decide +kernel
theorem dL_law_689 : decode cL_law 689 = .ok (.if_icmp .ne 105, 3) := by decide +kernel
theorem dL_law_692 : decode cL_law 692 = .ok (.aload_n 3, 1) := by decide +kernel
theorem dL_law_693 : decode cL_law 693 = .ok (.aload_n 2, 1) := by decide +kernel
theorem dL_law_694 : decode cL_law 694 = .ok (.iload 11, 2) := by decide +kernel
theorem dL_law_696 : decode cL_law 696 = .ok (.laload, 1) := by decide +kernel
theorem dL_law_697 : decode cL_law 697 = .ok (.invokestatic 165, 3) := by decide +kernel
theorem dL_law_700 : decode cL_law 700 = .ok (.istore 16, 2) := by decide +kernel
theorem dL_law_702 : decode cL_law 702 = .ok (.aload_n 1, 1) := by decide +kernel
theorem dL_law_703 : decode cL_law 703 = .ok (.iload 11, 2) := by decide +kernel
theorem dL_law_705 : decode cL_law 705 = .ok (.invokevirtual 156, 3) := by decide +kernel
theorem dL_law_708 : decode cL_law 708 = .ok (.iload 16, 2) := by decide +kernel
theorem dL_law_710 : decode cL_law 710 = .ok (.ifCond .ne 8, 3) := by decide +kernel
theorem dL_law_713 : decode cL_law 713 = .ok (.bipush (-3), 2) := by decide +kernel
theorem dL_law_715 : decode cL_law 715 = .ok (.goto 15, 3) := by decide +kernel
theorem dL_law_718 : decode cL_law 718 = .ok (.iload 15, 2) := by decide +kernel
theorem dL_law_720 : decode cL_law 720 = .ok (.ifCond .ge 8, 3) := by decide +kernel
theorem dL_law_723 : decode cL_law 723 = .ok (.bipush (-4), 2) := by decide +kernel
theorem dL_law_725 : decode cL_law 725 = .ok (.goto 5, 3) := by decide +kernel
theorem dL_law_728 : decode cL_law 728 = .ok (.iload 15, 2) := by decide +kernel
theorem dL_law_730 : decode cL_law 730 = .ok (.if_icmp .ne 7, 3) := by decide +kernel
theorem dL_law_733 : decode cL_law 733 = .ok (.iconst 1, 1) := by decide +kernel
theorem dL_law_734 : decode cL_law 734 = .ok (.goto 4, 3) := by decide +kernel
theorem dL_law_737 : decode cL_law 737 = .ok (.iconst 0, 1) := by decide +kernel
theorem dL_law_738 : decode cL_law 738 = .ok (.istore 14, 2) := by decide +kernel
theorem dL_law_740 : decode cL_law 740 = .ok (.iload 16, 2) := by decide +kernel
theorem dL_law_742 : decode cL_law 742 = .ok (.ifCond .eq 49, 3) := by decide +kernel
theorem dL_law_745 : decode cL_law 745 = .ok (.iload 15, 2) := by decide +kernel
theorem dL_law_747 : decode cL_law 747 = .ok (.ifCond .lt 44, 3) := by decide +kernel
theorem dL_law_750 : decode cL_law 750 = .ok (.aload_n 2, 1) := by decide +kernel
theorem dL_law_751 : decode cL_law 751 = .ok (.iload 15, 2) := by decide +kernel
theorem dL_law_753 : decode cL_law 753 = .ok (.aload_n 2, 1) := by decide +kernel
theorem dL_law_754 : decode cL_law 754 = .ok (.iload 11, 2) := by decide +kernel
theorem dL_law_756 : decode cL_law 756 = .ok (.laload, 1) := by decide +kernel
theorem dL_law_757 : decode cL_law 757 = .ok (.lastore, 1) := by decide +kernel
theorem dL_law_758 : decode cL_law 758 = .ok (.iconst 1, 1) := by decide +kernel
theorem dL_law_759 : decode cL_law 759 = .ok (.istore 17, 2) := by decide +kernel
theorem dL_law_761 : decode cL_law 761 = .ok (.iload 17, 2) := by decide +kernel
theorem dL_law_763 : decode cL_law 763 = .ok (.iconst 5, 1) := by decide +kernel
theorem dL_law_764 : decode cL_law 764 = .ok (.if_icmp .gt 27, 3) := by decide +kernel
theorem dL_law_767 : decode cL_law 767 = .ok (.aload_n 3, 1) := by decide +kernel
theorem dL_law_768 : decode cL_law 768 = .ok (.iload 17, 2) := by decide +kernel
theorem dL_law_770 : decode cL_law 770 = .ok (.iconst 1, 1) := by decide +kernel
theorem dL_law_771 : decode cL_law 771 = .ok (.isub, 1) := by decide +kernel
theorem dL_law_772 : decode cL_law 772 = .ok (.dup2, 1) := by decide +kernel
theorem dL_law_773 : decode cL_law 773 = .ok (.iaload, 1) := by decide +kernel
theorem dL_law_774 : decode cL_law 774 = .ok (.aload_n 2, 1) := by decide +kernel
theorem dL_law_775 : decode cL_law 775 = .ok (.iload 11, 2) := by decide +kernel
theorem dL_law_777 : decode cL_law 777 = .ok (.laload, 1) := by decide +kernel
theorem dL_law_778 : decode cL_law 778 = .ok (.iload 17, 2) := by decide +kernel
theorem dL_law_780 : decode cL_law 780 = .ok (.invokestatic 49, 3) := by decide +kernel
theorem dL_law_783 : decode cL_law 783 = .ok (.isub, 1) := by decide +kernel
theorem dL_law_784 : decode cL_law 784 = .ok (.iastore, 1) := by decide +kernel
theorem dL_law_785 : decode cL_law 785 = .ok (.iinc 17 1, 3) := by decide +kernel
theorem dL_law_788 : decode cL_law 788 = .ok (.goto (-27), 3) := by decide +kernel
theorem dL_law_791 : decode cL_law 791 = .ok (.goto 943, 3) := by decide +kernel
theorem dL_law_794 : decode cL_law 794 = .ok (.iload 10, 2) := by decide +kernel
theorem dL_law_796 : decode cL_law 796 = .ok (.bipush 7, 2) := by decide +kernel
theorem dL_law_798 : decode cL_law 798 = .ok (.if_icmp .ne 125, 3) := by decide +kernel
theorem dL_law_801 : decode cL_law 801 = .ok (.iload 9, 2) := by decide +kernel
theorem dL_law_803 : decode cL_law 803 = .ok (.bipush 11, 2) := by decide +kernel
theorem dL_law_805 : decode cL_law 805 = .ok (.ishr, 1) := by decide +kernel
theorem dL_law_806 : decode cL_law 806 = .ok (.iconst 3, 1) := by decide +kernel
theorem dL_law_807 : decode cL_law 807 = .ok (.invokestatic 74, 3) := by decide +kernel
theorem dL_law_810 : decode cL_law 810 = .ok (.ifCond .ne 113, 3) := by decide +kernel
theorem dL_law_813 : decode cL_law 813 = .ok (.aload_n 3, 1) := by decide +kernel
theorem dL_law_814 : decode cL_law 814 = .ok (.aload_n 2, 1) := by decide +kernel
theorem dL_law_815 : decode cL_law 815 = .ok (.iload 11, 2) := by decide +kernel
theorem dL_law_817 : decode cL_law 817 = .ok (.laload, 1) := by decide +kernel
theorem dL_law_818 : decode cL_law 818 = .ok (.invokestatic 169, 3) := by decide +kernel
theorem dL_law_821 : decode cL_law 821 = .ok (.istore 16, 2) := by decide +kernel
theorem dL_law_823 : decode cL_law 823 = .ok (.aload_n 1, 1) := by decide +kernel
theorem dL_law_824 : decode cL_law 824 = .ok (.iload 11, 2) := by decide +kernel
theorem dL_law_826 : decode cL_law 826 = .ok (.invokevirtual 159, 3) := by decide +kernel
theorem dL_law_829 : decode cL_law 829 = .ok (.iload 16, 2) := by decide +kernel
theorem dL_law_831 : decode cL_law 831 = .ok (.ifCond .eq 22, 3) := by decide +kernel
theorem dL_law_834 : decode cL_law 834 = .ok (.aload_n 2, 1) := by decide +kernel
theorem dL_law_835 : decode cL_law 835 = .ok (.iload 11, 2) := by decide +kernel
theorem dL_law_837 : decode cL_law 837 = .ok (.laload, 1) := by decide +kernel
theorem dL_law_838 : decode cL_law 838 = .ok (.invokestatic 12, 3) := by decide +kernel
theorem dL_law_841 : decode cL_law 841 = .ok (.aload_n 2, 1) := by decide +kernel
theorem dL_law_842 : decode cL_law 842 = .ok (.iload 11, 2) := by decide +kernel
theorem dL_law_844 : decode cL_law 844 = .ok (.laload, 1) := by decide +kernel
theorem dL_law_845 : decode cL_law 845 = .ok (.iconst 0, 1) := by decide +kernel
theorem dL_law_846 : decode cL_law 846 = .ok (.invokestatic 49, 3) := by decide +kernel
theorem dL_law_849 : decode cL_law 849 = .ok (.isub, 1) := by decide +kernel
theorem dL_law_850 : decode cL_law 850 = .ok (.goto 5, 3) := by decide +kernel
theorem dL_law_853 : decode cL_law 853 = .ok (.bipush (-3), 2) := by decide +kernel
theorem dL_law_855 : decode cL_law 855 = .ok (.if_icmp .ne 7, 3) := by decide +kernel
theorem dL_law_858 : decode cL_law 858 = .ok (.iconst 1, 1) := by decide +kernel
theorem dL_law_859 : decode cL_law 859 = .ok (.goto 4, 3) := by decide +kernel
theorem dL_law_862 : decode cL_law 862 = .ok (.iconst 0, 1) := by decide +kernel
theorem dL_law_863 : decode cL_law 863 = .ok (.istore 14, 2) := by decide +kernel
theorem dL_law_865 : decode cL_law 865 = .ok (.iconst 1, 1) := by decide +kernel
theorem dL_law_866 : decode cL_law 866 = .ok (.istore 17, 2) := by decide +kernel
theorem dL_law_868 : decode cL_law 868 = .ok (.iload 17, 2) := by decide +kernel
theorem dL_law_870 : decode cL_law 870 = .ok (.iconst 5, 1) := by decide +kernel
theorem dL_law_871 : decode cL_law 871 = .ok (.if_icmp .gt 32, 3) := by decide +kernel
theorem dL_law_874 : decode cL_law 874 = .ok (.iload 16, 2) := by decide +kernel
theorem dL_law_876 : decode cL_law 876 = .ok (.ifCond .eq 27, 3) := by decide +kernel
theorem dL_law_879 : decode cL_law 879 = .ok (.aload_n 3, 1) := by decide +kernel
theorem dL_law_880 : decode cL_law 880 = .ok (.iload 17, 2) := by decide +kernel
theorem dL_law_882 : decode cL_law 882 = .ok (.iconst 1, 1) := by decide +kernel
theorem dL_law_883 : decode cL_law 883 = .ok (.isub, 1) := by decide +kernel
theorem dL_law_884 : decode cL_law 884 = .ok (.dup2, 1) := by decide +kernel
theorem dL_law_885 : decode cL_law 885 = .ok (.iaload, 1) := by decide +kernel
theorem dL_law_886 : decode cL_law 886 = .ok (.aload_n 2, 1) := by decide +kernel
theorem dL_law_887 : decode cL_law 887 = .ok (.iload 11, 2) := by decide +kernel
theorem dL_law_889 : decode cL_law 889 = .ok (.laload, 1) := by decide +kernel
theorem dL_law_890 : decode cL_law 890 = .ok (.iload 17, 2) := by decide +kernel
theorem dL_law_892 : decode cL_law 892 = .ok (.invokestatic 49, 3) := by decide +kernel
theorem dL_law_895 : decode cL_law 895 = .ok (.iadd, 1) := by decide +kernel
theorem dL_law_896 : decode cL_law 896 = .ok (.iastore, 1) := by decide +kernel
theorem dL_law_897 : decode cL_law 897 = .ok (.iinc 17 1, 3) := by decide +kernel
theorem dL_law_900 : decode cL_law 900 = .ok (.goto (-32), 3) := by decide +kernel
theorem dL_law_903 : decode cL_law 903 = .ok (.aload_n 2, 1) := by decide +kernel
theorem dL_law_904 : decode cL_law 904 = .ok (.iload 11, 2) := by decide +kernel
theorem dL_law_906 : decode cL_law 906 = .ok (.iload 16, 2) := by decide +kernel
theorem dL_law_908 : decode cL_law 908 = .ok (.ifCond .eq 7, 3) := by decide +kernel
theorem dL_law_911 : decode cL_law 911 = .ok (.lconst 0, 1) := by decide +kernel
theorem dL_law_912 : decode cL_law 912 = .ok (.goto 7, 3) := by decide +kernel
theorem dL_law_915 : decode cL_law 915 = .ok (.aload_n 2, 1) := by decide +kernel
theorem dL_law_916 : decode cL_law 916 = .ok (.iload 11, 2) := by decide +kernel
theorem dL_law_918 : decode cL_law 918 = .ok (.laload, 1) := by decide +kernel
theorem dL_law_919 : decode cL_law 919 = .ok (.lastore, 1) := by decide +kernel
theorem dL_law_920 : decode cL_law 920 = .ok (.goto 814, 3) := by decide +kernel
theorem dL_law_923 : decode cL_law 923 = .ok (.iload 10, 2) := by decide +kernel
theorem dL_law_925 : decode cL_law 925 = .ok (.bipush 14, 2) := by decide +kernel
theorem dL_law_927 : decode cL_law 927 = .ok (.if_icmp .ge 135, 3) := by decide +kernel
theorem dL_law_930 : decode cL_law 930 = .ok (.iload 9, 2) := by decide +kernel
