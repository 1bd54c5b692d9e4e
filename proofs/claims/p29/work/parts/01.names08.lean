theorem dL_acts_492 : decode cL_acts 492 = .ok (.iload 6, 2) := by decide +kernel
theorem dL_acts_494 : decode cL_acts 494 = .ok (.iload 11, 2) := by decide +kernel
theorem dL_acts_496 : decode cL_acts 496 = .ok (.if_icmp .eq 17, 3) := by decide +kernel
theorem dL_acts_499 : decode cL_acts 499 = .ok (.iload 8, 2) := by decide +kernel
theorem dL_acts_501 : decode cL_acts 501 = .ok (.ifCond .eq 12, 3) := by decide +kernel
theorem dL_acts_504 : decode cL_acts 504 = .ok (.iload 12, 2) := by decide +kernel
theorem dL_acts_506 : decode cL_acts 506 = .ok (.ifCond .le 7, 3) := by decide +kernel
theorem dL_acts_509 : decode cL_acts 509 = .ok (.iconst 1, 1) := by decide +kernel
theorem dL_acts_510 : decode cL_acts 510 = .ok (.goto 4, 3) := by decide +kernel
theorem dL_acts_513 : decode cL_acts 513 = .ok (.iconst 0, 1) := by decide +kernel
theorem dL_acts_514 : decode cL_acts 514 = .ok (.istore 13, 2) := by decide +kernel
theorem dL_acts_516 : decode cL_acts 516 = .ok (.iload 13, 2) := by decide +kernel
theorem dL_acts_518 : decode cL_acts 518 = .ok (.ifCond .eq 42, 3) := by decide +kernel
theorem dL_acts_521 : decode cL_acts 521 = .ok (.aload_n 0, 1) := by decide +kernel
theorem dL_acts_522 : decode cL_acts 522 = .ok (.iload 7, 2) := by decide +kernel
theorem dL_acts_524 : decode cL_acts 524 = .ok (.iconst 4, 1) := by decide +kernel
theorem dL_acts_525 : decode cL_acts 525 = .ok (.invokevirtual 19, 3) := by decide +kernel
theorem dL_acts_528 : decode cL_acts 528 = .ok (.iload 6, 2) := by decide +kernel
theorem dL_acts_530 : decode cL_acts 530 = .ok (.if_icmp .ne 30, 3) := by decide +kernel
theorem dL_acts_533 : decode cL_acts 533 = .ok (.aload_n 0, 1) := by decide +kernel
theorem dL_acts_534 : decode cL_acts 534 = .ok (.iload 7, 2) := by decide +kernel
theorem dL_acts_536 : decode cL_acts 536 = .ok (.iconst 5, 1) := by decide +kernel
theorem dL_acts_537 : decode cL_acts 537 = .ok (.invokevirtual 19, 3) := by decide +kernel
theorem dL_acts_540 : decode cL_acts 540 = .ok (.iload 6, 2) := by decide +kernel
theorem dL_acts_542 : decode cL_acts 542 = .ok (.if_icmp .ne 18, 3) := by decide +kernel
theorem dL_acts_545 : decode cL_acts 545 = .ok (.aload_n 0, 1) := by decide +kernel
theorem dL_acts_546 : decode cL_acts 546 = .ok (.iload 7, 2) := by decide +kernel
theorem dL_acts_548 : decode cL_acts 548 = .ok (.bipush 6, 2) := by decide +kernel
theorem dL_acts_550 : decode cL_acts 550 = .ok (.invokevirtual 19, 3) := by decide +kernel
theorem dL_acts_553 : decode cL_acts 553 = .ok (.ifCond .lt 7, 3) := by decide +kernel
theorem dL_acts_556 : decode cL_acts 556 = .ok (.iconst 1, 1) := by decide +kernel
theorem dL_acts_557 : decode cL_acts 557 = .ok (.goto 4, 3) := by decide +kernel
theorem dL_acts_560 : decode cL_acts 560 = .ok (.iconst 0, 1) := by decide +kernel
theorem dL_acts_561 : decode cL_acts 561 = .ok (.istore 14, 2) := by decide +kernel
theorem dL_acts_563 : decode cL_acts 563 = .ok (.aload_n 0, 1) := by decide +kernel
theorem dL_acts_564 : decode cL_acts 564 = .ok (.iconst 4, 1) := by decide +kernel
theorem dL_acts_565 : decode cL_acts 565 = .ok (.invokevirtual 13, 3) := by decide +kernel
theorem dL_acts_568 : decode cL_acts 568 = .ok (.istore 15, 2) := by decide +kernel
theorem dL_acts_570 : decode cL_acts 570 = .ok (.aload_n 0, 1) := by decide +kernel
theorem dL_acts_571 : decode cL_acts 571 = .ok (.iload 6, 2) := by decide +kernel
theorem dL_acts_573 : decode cL_acts 573 = .ok (.iload 11, 2) := by decide +kernel
theorem dL_acts_575 : decode cL_acts 575 = .ok (.iload 12, 2) := by decide +kernel
theorem dL_acts_577 : decode cL_acts 577 = .ok (.iconst 1, 1) := by decide +kernel
theorem dL_acts_578 : decode cL_acts 578 = .ok (.iload 7, 2) := by decide +kernel
theorem dL_acts_580 : decode cL_acts 580 = .ok (.ishl, 1) := by decide +kernel
theorem dL_acts_581 : decode cL_acts 581 = .ok (.invokevirtual 80, 3) := by decide +kernel
theorem dL_acts_584 : decode cL_acts 584 = .ok (.istore 16, 2) := by decide +kernel
theorem dL_acts_586 : decode cL_acts 586 = .ok (.iload 16, 2) := by decide +kernel
theorem dL_acts_588 : decode cL_acts 588 = .ok (.iload 13, 2) := by decide +kernel
theorem dL_acts_590 : decode cL_acts 590 = .ok (.ifCond .ne 8, 3) := by decide +kernel
theorem dL_acts_593 : decode cL_acts 593 = .ok (.ldc 65, 2) := by decide +kernel
theorem dL_acts_595 : decode cL_acts 595 = .ok (.goto 27, 3) := by decide +kernel
theorem dL_acts_598 : decode cL_acts 598 = .ok (.iload 14, 2) := by decide +kernel
theorem dL_acts_600 : decode cL_acts 600 = .ok (.ifCond .ne 8, 3) := by decide +kernel
theorem dL_acts_603 : decode cL_acts 603 = .ok (.ldc 64, 2) := by decide +kernel
theorem dL_acts_605 : decode cL_acts 605 = .ok (.goto 17, 3) := by decide +kernel
theorem dL_acts_608 : decode cL_acts 608 = .ok (.iload 15, 2) := by decide +kernel
theorem dL_acts_610 : decode cL_acts 610 = .ok (.bipush 10, 2) := by decide +kernel
theorem dL_acts_612 : decode cL_acts 612 = .ok (.if_icmp .ne 8, 3) := by decide +kernel
theorem dL_acts_615 : decode cL_acts 615 = .ok (.ldc 69, 2) := by decide +kernel
theorem dL_acts_617 : decode cL_acts 617 = .ok (.goto 5, 3) := by decide +kernel
theorem dL_acts_620 : decode cL_acts 620 = .ok (.iload 15, 2) := by decide +kernel
theorem dL_acts_622 : decode cL_acts 622 = .ok (.if_icmp .ne 43, 3) := by decide +kernel
theorem dL_acts_625 : decode cL_acts 625 = .ok (.iload 16, 2) := by decide +kernel
theorem dL_acts_627 : decode cL_acts 627 = .ok (.ifCond .lt 34, 3) := by decide +kernel
theorem dL_acts_630 : decode cL_acts 630 = .ok (.aload_n 0, 1) := by decide +kernel
theorem dL_acts_631 : decode cL_acts 631 = .ok (.iload 16, 2) := by decide +kernel
theorem dL_acts_633 : decode cL_acts 633 = .ok (.iconst 2, 1) := by decide +kernel
theorem dL_acts_634 : decode cL_acts 634 = .ok (.invokevirtual 26, 3) := by decide +kernel
theorem dL_acts_637 : decode cL_acts 637 = .ok (.aload_n 0, 1) := by decide +kernel
theorem dL_acts_638 : decode cL_acts 638 = .ok (.bipush 7, 2) := by decide +kernel
theorem dL_acts_640 : decode cL_acts 640 = .ok (.invokevirtual 13, 3) := by decide +kernel
theorem dL_acts_643 : decode cL_acts 643 = .ok (.iload 12, 2) := by decide +kernel
theorem dL_acts_645 : decode cL_acts 645 = .ok (.iadd, 1) := by decide +kernel
theorem dL_acts_646 : decode cL_acts 646 = .ok (.if_icmp .ne 19, 3) := by decide +kernel
theorem dL_acts_649 : decode cL_acts 649 = .ok (.aload_n 0, 1) := by decide +kernel
theorem dL_acts_650 : decode cL_acts 650 = .ok (.iload 7, 2) := by decide +kernel
theorem dL_acts_652 : decode cL_acts 652 = .ok (.iconst 5, 1) := by decide +kernel
theorem dL_acts_653 : decode cL_acts 653 = .ok (.invokevirtual 19, 3) := by decide +kernel
theorem dL_acts_656 : decode cL_acts 656 = .ok (.iload 11, 2) := by decide +kernel
theorem dL_acts_658 : decode cL_acts 658 = .ok (.if_icmp .ne 7, 3) := by decide +kernel
theorem dL_acts_661 : decode cL_acts 661 = .ok (.iconst 1, 1) := by decide +kernel
theorem dL_acts_662 : decode cL_acts 662 = .ok (.goto 4, 3) := by decide +kernel
theorem dL_acts_665 : decode cL_acts 665 = .ok (.iconst 0, 1) := by decide +kernel
theorem dL_acts_666 : decode cL_acts 666 = .ok (.ireturn, 1) := by decide +kernel
theorem dL_acts_667 : decode cL_acts 667 = .ok (.iload_n 3, 1) := by decide +kernel
theorem dL_acts_668 : decode cL_acts 668 = .ok (.bipush 13, 2) := by decide +kernel
theorem dL_acts_670 : decode cL_acts 670 = .ok (.if_icmp .ge 111, 3) := by decide +kernel
theorem dL_acts_673 : decode cL_acts 673 = .ok (.iload 9, 2) := by decide +kernel
theorem dL_acts_675 : decode cL_acts 675 = .ok (.ifCond .eq 14, 3) := by decide +kernel
theorem dL_acts_678 : decode cL_acts 678 = .ok (.aload_n 0, 1) := by decide +kernel
theorem dL_acts_679 : decode cL_acts 679 = .ok (.iload 7, 2) := by decide +kernel
theorem dL_acts_681 : decode cL_acts 681 = .ok (.bipush 7, 2) := by decide +kernel
theorem dL_acts_683 : decode cL_acts 683 = .ok (.invokevirtual 19, 3) := by decide +kernel
theorem dL_acts_686 : decode cL_acts 686 = .ok (.goto 4, 3) := by decide +kernel
theorem dL_acts_689 : decode cL_acts 689 = .ok (.iconst 0, 1) := by decide +kernel
theorem dL_acts_690 : decode cL_acts 690 = .ok (.istore 11, 2) := by decide +kernel
theorem dL_acts_692 : decode cL_acts 692 = .ok (.aload_n 0, 1) := by decide +kernel
theorem dL_acts_693 : decode cL_acts 693 = .ok (.iload 7, 2) := by decide +kernel
theorem dL_acts_695 : decode cL_acts 695 = .ok (.invokevirtual 83, 3) := by decide +kernel
theorem dL_acts_698 : decode cL_acts 698 = .ok (.istore 12, 2) := by decide +kernel
theorem dL_acts_700 : decode cL_acts 700 = .ok (.iload 8, 2) := by decide +kernel
theorem dL_acts_702 : decode cL_acts 702 = .ok (.ifCond .ne 18, 3) := by decide +kernel
theorem dL_acts_705 : decode cL_acts 705 = .ok (.iload 12, 2) := by decide +kernel
theorem dL_acts_707 : decode cL_acts 707 = .ok (.ldc 65, 2) := by decide +kernel
theorem dL_acts_709 : decode cL_acts 709 = .ok (.if_icmp .ne 7, 3) := by decide +kernel
theorem dL_acts_712 : decode cL_acts 712 = .ok (.iconst 1, 1) := by decide +kernel
theorem dL_acts_713 : decode cL_acts 713 = .ok (.goto 67, 3) := by decide +kernel
theorem dL_acts_716 : decode cL_acts 716 = .ok (.iconst 0, 1) := by decide +kernel
theorem dL_acts_717 : decode cL_acts 717 = .ok (.goto 63, 3) := by decide +kernel
theorem dL_acts_720 : decode cL_acts 720 = .ok (.iload 9, 2) := by decide +kernel
theorem dL_acts_722 : decode cL_acts 722 = .ok (.ifCond .ne 18, 3) := by decide +kernel
theorem dL_acts_725 : decode cL_acts 725 = .ok (.iload 12, 2) := by decide +kernel
theorem dL_acts_727 : decode cL_acts 727 = .ok (.ldc 64, 2) := by decide +kernel
theorem dL_acts_729 : decode cL_acts 729 = .ok (.if_icmp .ne 7, 3) := by decide +kernel
theorem dL_acts_732 : decode cL_acts 732 = .ok (.iconst 1, 1) := by decide +kernel
theorem dL_acts_733 : decode cL_acts 733 = .ok (.goto 47, 3) := by decide +kernel
theorem dL_acts_736 : decode cL_acts 736 = .ok (.iconst 0, 1) := by decide +kernel
theorem dL_acts_737 : decode cL_acts 737 = .ok (.goto 43, 3) := by decide +kernel
theorem dL_acts_740 : decode cL_acts 740 = .ok (.iload 12, 2) := by decide +kernel
theorem dL_acts_742 : decode cL_acts 742 = .ok (.ifCond .lt 37, 3) := by decide +kernel
theorem dL_acts_745 : decode cL_acts 745 = .ok (.iload 12, 2) := by decide +kernel
theorem dL_acts_747 : decode cL_acts 747 = .ok (.ifCond .le 7, 3) := by decide +kernel
theorem dL_acts_750 : decode cL_acts 750 = .ok (.iconst 1, 1) := by decide +kernel
theorem dL_acts_751 : decode cL_acts 751 = .ok (.goto 4, 3) := by decide +kernel
theorem dL_acts_754 : decode cL_acts 754 = .ok (.iconst 0, 1) := by decide +kernel
theorem dL_acts_755 : decode cL_acts 755 = .ok (.aload_n 0, 1) := by decide +kernel
theorem dL_acts_756 : decode cL_acts 756 = .ok (.iload 11, 2) := by decide +kernel
theorem dL_acts_758 : decode cL_acts 758 = .ok (.bipush 6, 2) := by decide +kernel
theorem dL_acts_760 : decode cL_acts 760 = .ok (.invokevirtual 26, 3) := by decide +kernel
theorem dL_acts_763 : decode cL_acts 763 = .ok (.iconst 1, 1) := by decide +kernel
theorem dL_acts_764 : decode cL_acts 764 = .ok (.if_icmp .ne 7, 3) := by decide +kernel
theorem dL_acts_767 : decode cL_acts 767 = .ok (.iconst 1, 1) := by decide +kernel
theorem dL_acts_768 : decode cL_acts 768 = .ok (.goto 4, 3) := by decide +kernel
theorem dL_acts_771 : decode cL_acts 771 = .ok (.iconst 0, 1) := by decide +kernel
theorem dL_acts_772 : decode cL_acts 772 = .ok (.if_icmp .ne 7, 3) := by decide +kernel
theorem dL_acts_775 : decode cL_acts 775 = .ok (.iconst 1, 1) := by decide +kernel
theorem dL_acts_776 : decode cL_acts 776 = .ok (.goto 4, 3) := by decide +kernel
theorem dL_acts_779 : decode cL_acts 779 = .ok (.iconst 0, 1) := by decide +kernel
theorem dL_acts_780 : decode cL_acts 780 = .ok (.ireturn, 1) := by decide +kernel
theorem dL_acts_781 : decode cL_acts 781 = .ok (.iload_n 3, 1) := by decide +kernel
theorem dL_acts_782 : decode cL_acts 782 = .ok (.bipush 13, 2) := by decide +kernel
theorem dL_acts_784 : decode cL_acts 784 = .ok (.if_icmp .ne 94, 3) := by decide +kernel
theorem dL_acts_787 : decode cL_acts 787 = .ok (.iload 9, 2) := by decide +kernel
theorem dL_acts_789 : decode cL_acts 789 = .ok (.ifCond .eq 14, 3) := by decide +kernel
theorem dL_acts_792 : decode cL_acts 792 = .ok (.aload_n 0, 1) := by decide +kernel
theorem dL_acts_793 : decode cL_acts 793 = .ok (.iload 7, 2) := by decide +kernel
theorem dL_acts_795 : decode cL_acts 795 = .ok (.bipush 8, 2) := by decide +kernel
theorem dL_acts_797 : decode cL_acts 797 = .ok (.invokevirtual 19, 3) := by decide +kernel
theorem dL_acts_800 : decode cL_acts 800 = .ok (.goto 4, 3) := by decide +kernel
theorem dL_acts_803 : decode cL_acts 803 = .ok (.iconst 0, 1) := by decide +kernel
theorem dL_acts_804 : decode cL_acts 804 = .ok (.istore 11, 2) := by decide +kernel
theorem dL_acts_806 : decode cL_acts 806 = .ok (.iload 9, 2) := by decide +kernel
theorem dL_acts_808 : decode cL_acts 808 = .ok (.ifCond .eq 13, 3) := by decide +kernel
theorem dL_acts_811 : decode cL_acts 811 = .ok (.aload_n 0, 1) := by decide +kernel
theorem dL_acts_812 : decode cL_acts 812 = .ok (.iload 7, 2) := by decide +kernel
theorem dL_acts_814 : decode cL_acts 814 = .ok (.iconst 5, 1) := by decide +kernel
theorem dL_acts_815 : decode cL_acts 815 = .ok (.invokevirtual 19, 3) := by decide +kernel
theorem dL_acts_818 : decode cL_acts 818 = .ok (.goto 4, 3) := by decide +kernel
theorem dL_acts_821 : decode cL_acts 821 = .ok (.iconst 0, 1) := by decide +kernel
theorem dL_acts_822 : decode cL_acts 822 = .ok (.istore 12, 2) := by decide +kernel
theorem dL_acts_824 : decode cL_acts 824 = .ok (.aload_n 0, 1) := by decide +kernel
theorem dL_acts_825 : decode cL_acts 825 = .ok (.iload 7, 2) := by decide +kernel
theorem dL_acts_827 : decode cL_acts 827 = .ok (.invokevirtual 86, 3) := by decide +kernel
theorem dL_acts_830 : decode cL_acts 830 = .ok (.iload 8, 2) := by decide +kernel
theorem dL_acts_832 : decode cL_acts 832 = .ok (.ifCond .ne 8, 3) := by decide +kernel
theorem dL_acts_835 : decode cL_acts 835 = .ok (.ldc 65, 2) := by decide +kernel
theorem dL_acts_837 : decode cL_acts 837 = .ok (.goto 15, 3) := by decide +kernel
theorem dL_acts_840 : decode cL_acts 840 = .ok (.iload 9, 2) := by decide +kernel
theorem dL_acts_842 : decode cL_acts 842 = .ok (.ifCond .ne 8, 3) := by decide +kernel
theorem dL_acts_845 : decode cL_acts 845 = .ok (.ldc 64, 2) := by decide +kernel
theorem dL_acts_847 : decode cL_acts 847 = .ok (.goto 5, 3) := by decide +kernel
theorem dL_acts_850 : decode cL_acts 850 = .ok (.iload 11, 2) := by decide +kernel
theorem dL_acts_852 : decode cL_acts 852 = .ok (.if_icmp .ne 24, 3) := by decide +kernel
theorem dL_acts_855 : decode cL_acts 855 = .ok (.iload 9, 2) := by decide +kernel
theorem dL_acts_857 : decode cL_acts 857 = .ok (.ifCond .eq 15, 3) := by decide +kernel
theorem dL_acts_860 : decode cL_acts 860 = .ok (.aload_n 0, 1) := by decide +kernel
theorem dL_acts_861 : decode cL_acts 861 = .ok (.iload 7, 2) := by decide +kernel
theorem dL_acts_863 : decode cL_acts 863 = .ok (.iconst 4, 1) := by decide +kernel
theorem dL_acts_864 : decode cL_acts 864 = .ok (.invokevirtual 19, 3) := by decide +kernel
theorem dL_acts_867 : decode cL_acts 867 = .ok (.iload 12, 2) := by decide +kernel
theorem dL_acts_869 : decode cL_acts 869 = .ok (.if_icmp .ne 7, 3) := by decide +kernel
theorem dL_acts_872 : decode cL_acts 872 = .ok (.iconst 1, 1) := by decide +kernel
theorem dL_acts_873 : decode cL_acts 873 = .ok (.goto 4, 3) := by decide +kernel
theorem dL_acts_876 : decode cL_acts 876 = .ok (.iconst 0, 1) := by decide +kernel
theorem dL_acts_877 : decode cL_acts 877 = .ok (.ireturn, 1) := by decide +kernel
theorem dL_acts_878 : decode cL_acts 878 = .ok (.iload_n 3, 1) := by decide +kernel
theorem dL_acts_879 : decode cL_acts 879 = .ok (.bipush 14, 2) := by decide +kernel
theorem dL_acts_881 : decode cL_acts 881 = .ok (.if_icmp .ne 111, 3) := by decide +kernel
theorem dL_acts_884 : decode cL_acts 884 = .ok (.iload_n 2, 1) := by decide +kernel
theorem dL_acts_885 : decode cL_acts 885 = .ok (.sipush 10001, 3) := by decide +kernel
theorem dL_acts_888 : decode cL_acts 888 = .ok (.invokestatic 33, 3) := by decide +kernel
theorem dL_acts_891 : decode cL_acts 891 = .ok (.istore 11, 2) := by decide +kernel
theorem dL_acts_893 : decode cL_acts 893 = .ok (.iload 8, 2) := by decide +kernel
theorem dL_acts_895 : decode cL_acts 895 = .ok (.ifCond .eq 23, 3) := by decide +kernel
theorem dL_acts_898 : decode cL_acts 898 = .ok (.iload 10, 2) := by decide +kernel
theorem dL_acts_900 : decode cL_acts 900 = .ok (.ifCond .ne 18, 3) := by decide +kernel
theorem dL_acts_903 : decode cL_acts 903 = .ok (.aload_n 0, 1) := by decide +kernel
theorem dL_acts_904 : decode cL_acts 904 = .ok (.aload_n 0, 1) := by decide +kernel
theorem dL_acts_905 : decode cL_acts 905 = .ok (.iload 7, 2) := by decide +kernel
theorem dL_acts_907 : decode cL_acts 907 = .ok (.iconst 4, 1) := by decide +kernel
theorem dL_acts_908 : decode cL_acts 908 = .ok (.invokevirtual 19, 3) := by decide +kernel
theorem dL_acts_911 : decode cL_acts 911 = .ok (.iconst 0, 1) := by decide +kernel
theorem dL_acts_912 : decode cL_acts 912 = .ok (.invokevirtual 23, 3) := by decide +kernel
theorem dL_acts_915 : decode cL_acts 915 = .ok (.goto 4, 3) := by decide +kernel
theorem dL_acts_918 : decode cL_acts 918 = .ok (.iconst 0, 1) := by decide +kernel
theorem dL_acts_919 : decode cL_acts 919 = .ok (.istore 12, 2) := by decide +kernel
theorem dL_acts_921 : decode cL_acts 921 = .ok (.iload_n 2, 1) := by decide +kernel
theorem dL_acts_922 : decode cL_acts 922 = .ok (.bipush 15, 2) := by decide +kernel
theorem dL_acts_924 : decode cL_acts 924 = .ok (.ishr, 1) := by decide +kernel
theorem dL_acts_925 : decode cL_acts 925 = .ok (.iconst 3, 1) := by decide +kernel
theorem dL_acts_926 : decode cL_acts 926 = .ok (.invokestatic 33, 3) := by decide +kernel
theorem dL_acts_929 : decode cL_acts 929 = .ok (.ifCond .gt 57, 3) := by decide +kernel
theorem dL_acts_932 : decode cL_acts 932 = .ok (.aload_n 0, 1) := by decide +kernel
theorem dL_acts_933 : decode cL_acts 933 = .ok (.iload 7, 2) := by decide +kernel
theorem dL_acts_935 : decode cL_acts 935 = .ok (.iload 11, 2) := by decide +kernel
theorem dL_acts_937 : decode cL_acts 937 = .ok (.invokevirtual 89, 3) := by decide +kernel
theorem dL_acts_940 : decode cL_acts 940 = .ok (.iload 8, 2) := by decide +kernel
theorem dL_acts_942 : decode cL_acts 942 = .ok (.ifCond .eq 16, 3) := by decide +kernel
theorem dL_acts_945 : decode cL_acts 945 = .ok (.iload 11, 2) := by decide +kernel
theorem dL_acts_947 : decode cL_acts 947 = .ok (.ifCond .eq 11, 3) := by decide +kernel
theorem dL_acts_950 : decode cL_acts 950 = .ok (.iload 11, 2) := by decide +kernel
theorem dL_acts_952 : decode cL_acts 952 = .ok (.sipush 10000, 3) := by decide +kernel
theorem dL_acts_955 : decode cL_acts 955 = .ok (.if_icmp .ne 8, 3) := by decide +kernel
theorem dL_acts_958 : decode cL_acts 958 = .ok (.ldc 65, 2) := by decide +kernel
theorem dL_acts_960 : decode cL_acts 960 = .ok (.goto 23, 3) := by decide +kernel
theorem dL_acts_963 : decode cL_acts 963 = .ok (.iload 9, 2) := by decide +kernel
theorem dL_acts_965 : decode cL_acts 965 = .ok (.ifCond .ne 8, 3) := by decide +kernel
theorem dL_acts_968 : decode cL_acts 968 = .ok (.iload 10, 2) := by decide +kernel
theorem dL_acts_970 : decode cL_acts 970 = .ok (.ifCond .eq 8, 3) := by decide +kernel
theorem dL_acts_973 : decode cL_acts 973 = .ok (.ldc 64, 2) := by decide +kernel
theorem dL_acts_975 : decode cL_acts 975 = .ok (.goto 8, 3) := by decide +kernel
theorem dL_acts_978 : decode cL_acts 978 = .ok (.iload 12, 2) := by decide +kernel
theorem dL_acts_980 : decode cL_acts 980 = .ok (.iload 11, 2) := by decide +kernel
theorem dL_acts_982 : decode cL_acts 982 = .ok (.iadd, 1) := by decide +kernel
theorem dL_acts_983 : decode cL_acts 983 = .ok (.if_icmp .ne 7, 3) := by decide +kernel
theorem dL_acts_986 : decode cL_acts 986 = .ok (.iconst 1, 1) := by decide +kernel
theorem dL_acts_987 : decode cL_acts 987 = .ok (.goto 4, 3) := by decide +kernel
theorem dL_acts_990 : decode cL_acts 990 = .ok (.iconst 0, 1) := by decide +kernel
theorem dL_acts_991 : decode cL_acts 991 = .ok (.ireturn, 1) := by decide +kernel
theorem dL_acts_992 : decode cL_acts 992 = .ok (.iload_n 3, 1) := by decide +kernel
theorem dL_acts_993 : decode cL_acts 993 = .ok (.bipush 15, 2) := by decide +kernel
theorem dL_acts_995 : decode cL_acts 995 = .ok (.if_icmp .ne 94, 3) := by decide +kernel
theorem dL_acts_998 : decode cL_acts 998 = .ok (.iload_n 2, 1) := by decide +kernel
theorem dL_acts_999 : decode cL_acts 999 = .ok (.bipush 11, 2) := by decide +kernel
theorem dL_acts_1001 : decode cL_acts 1001 = .ok (.invokestatic 33, 3) := by decide +kernel
theorem dL_acts_1004 : decode cL_acts 1004 = .ok (.istore 11, 2) := by decide +kernel
theorem dL_acts_1006 : decode cL_acts 1006 = .ok (.iload 8, 2) := by decide +kernel
theorem dL_acts_1008 : decode cL_acts 1008 = .ok (.ifCond .eq 24, 3) := by decide +kernel
theorem dL_acts_1011 : decode cL_acts 1011 = .ok (.bipush 10, 2) := by decide +kernel
theorem dL_acts_1013 : decode cL_acts 1013 = .ok (.aload_n 0, 1) := by decide +kernel
theorem dL_acts_1014 : decode cL_acts 1014 = .ok (.iload 7, 2) := by decide +kernel
theorem dL_acts_1016 : decode cL_acts 1016 = .ok (.iconst 1, 1) := by decide +kernel
theorem dL_acts_1017 : decode cL_acts 1017 = .ok (.invokevirtual 19, 3) := by decide +kernel
theorem dL_acts_1020 : decode cL_acts 1020 = .ok (.imul, 1) := by decide +kernel
theorem dL_acts_1021 : decode cL_acts 1021 = .ok (.aload_n 0, 1) := by decide +kernel
theorem dL_acts_1022 : decode cL_acts 1022 = .ok (.iload 7, 2) := by decide +kernel
theorem dL_acts_1024 : decode cL_acts 1024 = .ok (.iconst 2, 1) := by decide +kernel
theorem dL_acts_1025 : decode cL_acts 1025 = .ok (.invokevirtual 19, 3) := by decide +kernel
theorem dL_acts_1028 : decode cL_acts 1028 = .ok (.iadd, 1) := by decide +kernel
theorem dL_acts_1029 : decode cL_acts 1029 = .ok (.goto 4, 3) := by decide +kernel
theorem dL_acts_1032 : decode cL_acts 1032 = .ok (.iconst 0, 1) := by decide +kernel
theorem dL_acts_1033 : decode cL_acts 1033 = .ok (.istore 12, 2) := by decide +kernel
theorem dL_acts_1035 : decode cL_acts 1035 = .ok (.aload_n 0, 1) := by decide +kernel
theorem dL_acts_1036 : decode cL_acts 1036 = .ok (.iload 7, 2) := by decide +kernel
theorem dL_acts_1038 : decode cL_acts 1038 = .ok (.iload 11, 2) := by decide +kernel
theorem dL_acts_1040 : decode cL_acts 1040 = .ok (.iload_n 2, 1) := by decide +kernel
theorem dL_acts_1041 : decode cL_acts 1041 = .ok (.iconst 4, 1) := by decide +kernel
theorem dL_acts_1042 : decode cL_acts 1042 = .ok (.ishr, 1) := by decide +kernel
theorem dL_acts_1043 : decode cL_acts 1043 = .ok (.bipush 8, 2) := by decide +kernel
theorem dL_acts_1045 : decode cL_acts 1045 = .ok (.invokestatic 33, 3) := by decide +kernel
theorem dL_acts_1048 : decode cL_acts 1048 = .ok (.invokevirtual 92, 3) := by decide +kernel
theorem dL_acts_1051 : decode cL_acts 1051 = .ok (.iload 8, 2) := by decide +kernel
theorem dL_acts_1053 : decode cL_acts 1053 = .ok (.ifCond .eq 10, 3) := by decide +kernel
theorem dL_acts_1056 : decode cL_acts 1056 = .ok (.iload 11, 2) := by decide +kernel
theorem dL_acts_1058 : decode cL_acts 1058 = .ok (.bipush 10, 2) := by decide +kernel
theorem dL_acts_1060 : decode cL_acts 1060 = .ok (.if_icmp .ne 8, 3) := by decide +kernel
theorem dL_acts_1063 : decode cL_acts 1063 = .ok (.ldc 65, 2) := by decide +kernel
theorem dL_acts_1065 : decode cL_acts 1065 = .ok (.goto 15, 3) := by decide +kernel
theorem dL_acts_1068 : decode cL_acts 1068 = .ok (.iload 10, 2) := by decide +kernel
theorem dL_acts_1070 : decode cL_acts 1070 = .ok (.ifCond .eq 8, 3) := by decide +kernel
theorem dL_acts_1073 : decode cL_acts 1073 = .ok (.ldc 64, 2) := by decide +kernel
theorem dL_acts_1075 : decode cL_acts 1075 = .ok (.goto 5, 3) := by decide +kernel
theorem dL_acts_1078 : decode cL_acts 1078 = .ok (.iload 12, 2) := by decide +kernel
theorem dL_acts_1080 : decode cL_acts 1080 = .ok (.if_icmp .ne 7, 3) := by decide +kernel
theorem dL_acts_1083 : decode cL_acts 1083 = .ok (.iconst 1, 1) := by decide +kernel
theorem dL_acts_1084 : decode cL_acts 1084 = .ok (.goto 4, 3) := by decide +kernel
theorem dL_acts_1087 : decode cL_acts 1087 = .ok (.iconst 0, 1) := by decide +kernel
theorem dL_acts_1088 : decode cL_acts 1088 = .ok (.ireturn, 1) := by decide +kernel
theorem dL_acts_1089 : decode cL_acts 1089 = .ok (.iload_n 3, 1) := by decide +kernel
theorem dL_acts_1090 : decode cL_acts 1090 = .ok (.bipush 16, 2) := by decide +kernel
theorem dL_acts_1092 : decode cL_acts 1092 = .ok (.if_icmp .ne 128, 3) := by decide +kernel
theorem dL_acts_1095 : decode cL_acts 1095 = .ok (.iload_n 2, 1) := by decide +kernel
theorem dL_acts_1096 : decode cL_acts 1096 = .ok (.iconst 4, 1) := by decide +kernel
theorem dL_acts_1097 : decode cL_acts 1097 = .ok (.invokestatic 33, 3) := by decide +kernel
theorem dL_acts_1100 : decode cL_acts 1100 = .ok (.ifCond .ne 14, 3) := by decide +kernel
theorem dL_acts_1103 : decode cL_acts 1103 = .ok (.iload_n 2, 1) := by decide +kernel
theorem dL_acts_1104 : decode cL_acts 1104 = .ok (.iconst 2, 1) := by decide +kernel
theorem dL_acts_1105 : decode cL_acts 1105 = .ok (.ishr, 1) := by decide +kernel
theorem dL_acts_1106 : decode cL_acts 1106 = .ok (.bipush 101, 2) := by decide +kernel
theorem dL_acts_1108 : decode cL_acts 1108 = .ok (.invokestatic 33, 3) := by decide +kernel
theorem dL_acts_1111 : decode cL_acts 1111 = .ok (.goto 13, 3) := by decide +kernel
theorem dL_acts_1114 : decode cL_acts 1114 = .ok (.iconst 1, 1) := by decide +kernel
theorem dL_acts_1115 : decode cL_acts 1115 = .ok (.iload_n 2, 1) := by decide +kernel
theorem dL_acts_1116 : decode cL_acts 1116 = .ok (.iconst 2, 1) := by decide +kernel
theorem dL_acts_1117 : decode cL_acts 1117 = .ok (.ishr, 1) := by decide +kernel
theorem dL_acts_1118 : decode cL_acts 1118 = .ok (.bipush 6, 2) := by decide +kernel
theorem dL_acts_1120 : decode cL_acts 1120 = .ok (.invokestatic 33, 3) := by decide +kernel
theorem dL_acts_1123 : decode cL_acts 1123 = .ok (.iadd, 1) := by decide +kernel
theorem dL_acts_1124 : decode cL_acts 1124 = .ok (.istore 11, 2) := by decide +kernel
theorem dL_acts_1126 : decode cL_acts 1126 = .ok (.aload_n 0, 1) := by decide +kernel
theorem dL_acts_1127 : decode cL_acts 1127 = .ok (.bipush 7, 2) := by decide +kernel
theorem dL_acts_1129 : decode cL_acts 1129 = .ok (.invokevirtual 13, 3) := by decide +kernel
theorem dL_acts_1132 : decode cL_acts 1132 = .ok (.istore 12, 2) := by decide +kernel
theorem dL_acts_1134 : decode cL_acts 1134 = .ok (.aload_n 0, 1) := by decide +kernel
theorem dL_acts_1135 : decode cL_acts 1135 = .ok (.iload 11, 2) := by decide +kernel
theorem dL_acts_1137 : decode cL_acts 1137 = .ok (.invokevirtual 95, 3) := by decide +kernel
theorem dL_acts_1140 : decode cL_acts 1140 = .ok (.istore 13, 2) := by decide +kernel
theorem dL_acts_1142 : decode cL_acts 1142 = .ok (.iload 11, 2) := by decide +kernel
theorem dL_acts_1144 : decode cL_acts 1144 = .ok (.ifCond .eq 10, 3) := by decide +kernel
theorem dL_acts_1147 : decode cL_acts 1147 = .ok (.iload 11, 2) := by decide +kernel
theorem dL_acts_1149 : decode cL_acts 1149 = .ok (.bipush 100, 2) := by decide +kernel
theorem dL_acts_1151 : decode cL_acts 1151 = .ok (.if_icmp .ne 18, 3) := by decide +kernel
theorem dL_acts_1154 : decode cL_acts 1154 = .ok (.iload 13, 2) := by decide +kernel
theorem dL_acts_1156 : decode cL_acts 1156 = .ok (.ldc 65, 2) := by decide +kernel
theorem dL_acts_1158 : decode cL_acts 1158 = .ok (.if_icmp .ne 7, 3) := by decide +kernel
theorem dL_acts_1161 : decode cL_acts 1161 = .ok (.iconst 1, 1) := by decide +kernel
theorem dL_acts_1162 : decode cL_acts 1162 = .ok (.goto 57, 3) := by decide +kernel
theorem dL_acts_1165 : decode cL_acts 1165 = .ok (.iconst 0, 1) := by decide +kernel
theorem dL_acts_1166 : decode cL_acts 1166 = .ok (.goto 53, 3) := by decide +kernel
theorem dL_acts_1169 : decode cL_acts 1169 = .ok (.iload 13, 2) := by decide +kernel
theorem dL_acts_1171 : decode cL_acts 1171 = .ok (.ldc 69, 2) := by decide +kernel
theorem dL_acts_1173 : decode cL_acts 1173 = .ok (.if_icmp .ne 22, 3) := by decide +kernel
theorem dL_acts_1176 : decode cL_acts 1176 = .ok (.iload 12, 2) := by decide +kernel
theorem dL_acts_1178 : decode cL_acts 1178 = .ok (.iload 11, 2) := by decide +kernel
theorem dL_acts_1180 : decode cL_acts 1180 = .ok (.iadd, 1) := by decide +kernel
theorem dL_acts_1181 : decode cL_acts 1181 = .ok (.sipush 2000, 3) := by decide +kernel
theorem dL_acts_1184 : decode cL_acts 1184 = .ok (.if_icmp .le 7, 3) := by decide +kernel
theorem dL_acts_1187 : decode cL_acts 1187 = .ok (.iconst 1, 1) := by decide +kernel
theorem dL_acts_1188 : decode cL_acts 1188 = .ok (.goto 31, 3) := by decide +kernel
theorem dL_acts_1191 : decode cL_acts 1191 = .ok (.iconst 0, 1) := by decide +kernel
theorem dL_acts_1192 : decode cL_acts 1192 = .ok (.goto 27, 3) := by decide +kernel
theorem dL_acts_1195 : decode cL_acts 1195 = .ok (.iload 13, 2) := by decide +kernel
theorem dL_acts_1197 : decode cL_acts 1197 = .ok (.ifCond .lt 21, 3) := by decide +kernel
theorem dL_acts_1200 : decode cL_acts 1200 = .ok (.aload_n 0, 1) := by decide +kernel
theorem dL_acts_1201 : decode cL_acts 1201 = .ok (.bipush 7, 2) := by decide +kernel
theorem dL_acts_1203 : decode cL_acts 1203 = .ok (.invokevirtual 13, 3) := by decide +kernel
theorem dL_acts_1206 : decode cL_acts 1206 = .ok (.iload 12, 2) := by decide +kernel
theorem dL_acts_1208 : decode cL_acts 1208 = .ok (.iload 11, 2) := by decide +kernel
theorem dL_acts_1210 : decode cL_acts 1210 = .ok (.iadd, 1) := by decide +kernel
theorem dL_acts_1211 : decode cL_acts 1211 = .ok (.if_icmp .ne 7, 3) := by decide +kernel
theorem dL_acts_1214 : decode cL_acts 1214 = .ok (.iconst 1, 1) := by decide +kernel
theorem dL_acts_1215 : decode cL_acts 1215 = .ok (.goto 4, 3) := by decide +kernel
theorem dL_acts_1218 : decode cL_acts 1218 = .ok (.iconst 0, 1) := by decide +kernel
theorem dL_acts_1219 : decode cL_acts 1219 = .ok (.ireturn, 1) := by decide +kernel
theorem dL_acts_1220 : decode cL_acts 1220 = .ok (.iload_n 3, 1) := by decide +kernel
theorem dL_acts_1221 : decode cL_acts 1221 = .ok (.bipush 17, 2) := by decide +kernel
theorem dL_acts_1223 : decode cL_acts 1223 = .ok (.if_icmp .ne 83, 3) := by decide +kernel
theorem dL_acts_1226 : decode cL_acts 1226 = .ok (.iload_n 2, 1) := by decide +kernel
theorem dL_acts_1227 : decode cL_acts 1227 = .ok (.iconst 3, 1) := by decide +kernel
theorem dL_acts_1228 : decode cL_acts 1228 = .ok (.invokestatic 33, 3) := by decide +kernel
theorem dL_acts_1231 : decode cL_acts 1231 = .ok (.istore 11, 2) := by decide +kernel
theorem dL_acts_1233 : decode cL_acts 1233 = .ok (.iload_n 2, 1) := by decide +kernel
theorem dL_acts_1234 : decode cL_acts 1234 = .ok (.iconst 2, 1) := by decide +kernel
theorem dL_acts_1235 : decode cL_acts 1235 = .ok (.ishr, 1) := by decide +kernel
theorem dL_acts_1236 : decode cL_acts 1236 = .ok (.bipush 40, 2) := by decide +kernel
theorem dL_acts_1238 : decode cL_acts 1238 = .ok (.invokestatic 33, 3) := by decide +kernel
theorem dL_acts_1241 : decode cL_acts 1241 = .ok (.istore 12, 2) := by decide +kernel
theorem dL_acts_1243 : decode cL_acts 1243 = .ok (.iload 11, 2) := by decide +kernel
theorem dL_acts_1245 : decode cL_acts 1245 = .ok (.iconst 2, 1) := by decide +kernel
theorem dL_acts_1246 : decode cL_acts 1246 = .ok (.if_icmp .ne 7, 3) := by decide +kernel
theorem dL_acts_1249 : decode cL_acts 1249 = .ok (.iconst 0, 1) := by decide +kernel
theorem dL_acts_1250 : decode cL_acts 1250 = .ok (.goto 12, 3) := by decide +kernel
theorem dL_acts_1253 : decode cL_acts 1253 = .ok (.aload_n 0, 1) := by decide +kernel
theorem dL_acts_1254 : decode cL_acts 1254 = .ok (.bipush 14, 2) := by decide +kernel
theorem dL_acts_1256 : decode cL_acts 1256 = .ok (.iload 11, 2) := by decide +kernel
theorem dL_acts_1258 : decode cL_acts 1258 = .ok (.iadd, 1) := by decide +kernel
theorem dL_acts_1259 : decode cL_acts 1259 = .ok (.invokevirtual 13, 3) := by decide +kernel
theorem dL_acts_1262 : decode cL_acts 1262 = .ok (.istore 13, 2) := by decide +kernel
theorem dL_acts_1264 : decode cL_acts 1264 = .ok (.aload_n 0, 1) := by decide +kernel
theorem dL_acts_1265 : decode cL_acts 1265 = .ok (.iload 11, 2) := by decide +kernel
theorem dL_acts_1267 : decode cL_acts 1267 = .ok (.iload 12, 2) := by decide +kernel
theorem dL_acts_1269 : decode cL_acts 1269 = .ok (.invokevirtual 98, 3) := by decide +kernel
theorem dL_acts_1272 : decode cL_acts 1272 = .ok (.iload 11, 2) := by decide +kernel
theorem dL_acts_1274 : decode cL_acts 1274 = .ok (.iconst 2, 1) := by decide +kernel
theorem dL_acts_1275 : decode cL_acts 1275 = .ok (.if_icmp .eq 15, 3) := by decide +kernel
theorem dL_acts_1278 : decode cL_acts 1278 = .ok (.iload 11, 2) := by decide +kernel
theorem dL_acts_1280 : decode cL_acts 1280 = .ok (.ifCond .ne 15, 3) := by decide +kernel
theorem dL_acts_1283 : decode cL_acts 1283 = .ok (.iload 12, 2) := by decide +kernel
theorem dL_acts_1285 : decode cL_acts 1285 = .ok (.bipush 30, 2) := by decide +kernel
theorem dL_acts_1287 : decode cL_acts 1287 = .ok (.if_icmp .le 8, 3) := by decide +kernel
theorem dL_acts_1290 : decode cL_acts 1290 = .ok (.ldc 65, 2) := by decide +kernel
theorem dL_acts_1292 : decode cL_acts 1292 = .ok (.goto 5, 3) := by decide +kernel
theorem dL_acts_1295 : decode cL_acts 1295 = .ok (.iload 13, 2) := by decide +kernel
theorem dL_acts_1297 : decode cL_acts 1297 = .ok (.if_icmp .ne 7, 3) := by decide +kernel
theorem dL_acts_1300 : decode cL_acts 1300 = .ok (.iconst 1, 1) := by decide +kernel
theorem dL_acts_1301 : decode cL_acts 1301 = .ok (.goto 4, 3) := by decide +kernel
theorem dL_acts_1304 : decode cL_acts 1304 = .ok (.iconst 0, 1) := by decide +kernel
theorem dL_acts_1305 : decode cL_acts 1305 = .ok (.ireturn, 1) := by decide +kernel
theorem dL_acts_1306 : decode cL_acts 1306 = .ok (.iload_n 3, 1) := by decide +kernel
theorem dL_acts_1307 : decode cL_acts 1307 = .ok (.bipush 18, 2) := by decide +kernel
theorem dL_acts_1309 : decode cL_acts 1309 = .ok (.if_icmp .ne 70, 3) := by decide +kernel
theorem dL_acts_1312 : decode cL_acts 1312 = .ok (.aload_n 0, 1) := by decide +kernel
theorem dL_acts_1313 : decode cL_acts 1313 = .ok (.bipush 13, 2) := by decide +kernel
theorem dL_acts_1315 : decode cL_acts 1315 = .ok (.invokevirtual 13, 3) := by decide +kernel
theorem dL_acts_1318 : decode cL_acts 1318 = .ok (.iconst 1, 1) := by decide +kernel
theorem dL_acts_1319 : decode cL_acts 1319 = .ok (.if_icmp .ne 7, 3) := by decide +kernel
theorem dL_acts_1322 : decode cL_acts 1322 = .ok (.iconst 1, 1) := by decide +kernel
theorem dL_acts_1323 : decode cL_acts 1323 = .ok (.goto 4, 3) := by decide +kernel
theorem dL_acts_1326 : decode cL_acts 1326 = .ok (.iconst 0, 1) := by decide +kernel
theorem dL_acts_1327 : decode cL_acts 1327 = .ok (.istore 11, 2) := by decide +kernel
theorem dL_acts_1329 : decode cL_acts 1329 = .ok (.iload_n 2, 1) := by decide +kernel
theorem dL_acts_1330 : decode cL_acts 1330 = .ok (.iconst 2, 1) := by decide +kernel
theorem dL_acts_1331 : decode cL_acts 1331 = .ok (.invokestatic 33, 3) := by decide +kernel
theorem dL_acts_1334 : decode cL_acts 1334 = .ok (.ifCond .ne 10, 3) := by decide +kernel
theorem dL_acts_1337 : decode cL_acts 1337 = .ok (.aload_n 0, 1) := by decide +kernel
theorem dL_acts_1338 : decode cL_acts 1338 = .ok (.invokevirtual 101, 3) := by decide +kernel
theorem dL_acts_1341 : decode cL_acts 1341 = .ok (.goto 7, 3) := by decide +kernel
theorem dL_acts_1344 : decode cL_acts 1344 = .ok (.aload_n 0, 1) := by decide +kernel
theorem dL_acts_1345 : decode cL_acts 1345 = .ok (.invokevirtual 104, 3) := by decide +kernel
theorem dL_acts_1348 : decode cL_acts 1348 = .ok (.istore 12, 2) := by decide +kernel
theorem dL_acts_1350 : decode cL_acts 1350 = .ok (.iload 12, 2) := by decide +kernel
theorem dL_acts_1352 : decode cL_acts 1352 = .ok (.aload_n 0, 1) := by decide +kernel
theorem dL_acts_1353 : decode cL_acts 1353 = .ok (.bipush 7, 2) := by decide +kernel
theorem dL_acts_1355 : decode cL_acts 1355 = .ok (.invokevirtual 13, 3) := by decide +kernel
theorem dL_acts_1358 : decode cL_acts 1358 = .ok (.if_icmp .eq 15, 3) := by decide +kernel
theorem dL_acts_1361 : decode cL_acts 1361 = .ok (.iload 11, 2) := by decide +kernel
theorem dL_acts_1363 : decode cL_acts 1363 = .ok (.ifCond .ne 14, 3) := by decide +kernel
theorem dL_acts_1366 : decode cL_acts 1366 = .ok (.iload 12, 2) := by decide +kernel
theorem dL_acts_1368 : decode cL_acts 1368 = .ok (.ldc 64, 2) := by decide +kernel
theorem dL_acts_1370 : decode cL_acts 1370 = .ok (.if_icmp .ne 7, 3) := by decide +kernel
theorem dL_acts_1373 : decode cL_acts 1373 = .ok (.iconst 1, 1) := by decide +kernel
theorem dL_acts_1374 : decode cL_acts 1374 = .ok (.goto 4, 3) := by decide +kernel
theorem dL_acts_1377 : decode cL_acts 1377 = .ok (.iconst 0, 1) := by decide +kernel
theorem dL_acts_1378 : decode cL_acts 1378 = .ok (.ireturn, 1) := by decide +kernel
theorem dL_acts_1379 : decode cL_acts 1379 = .ok (.aload_n 0, 1) := by decide +kernel
theorem dL_acts_1380 : decode cL_acts 1380 = .ok (.iload_n 2, 1) := by decide +kernel
theorem dL_acts_1381 : decode cL_acts 1381 = .ok (.invokestatic 107, 3) := by decide +kernel
theorem dL_acts_1384 : decode cL_acts 1384 = .ok (.ifCond .eq 14, 3) := by decide +kernel
theorem dL_acts_1387 : decode cL_acts 1387 = .ok (.aload_n 0, 1) := by decide +kernel
theorem dL_acts_1388 : decode cL_acts 1388 = .ok (.invokestatic 110, 3) := by decide +kernel
theorem dL_acts_1391 : decode cL_acts 1391 = .ok (.ifCond .eq 7, 3) := by decide +kernel
theorem dL_acts_1394 : decode cL_acts 1394 = .ok (.iconst 1, 1) := by decide +kernel
theorem dL_acts_1395 : decode cL_acts 1395 = .ok (.goto 4, 3) := by decide +kernel
theorem dL_acts_1398 : decode cL_acts 1398 = .ok (.iconst 0, 1) := by decide +kernel
theorem dL_acts_1399 : decode cL_acts 1399 = .ok (.ireturn, 1) := by decide +kernel
set_option maxRecDepth 20000 in
theorem ggL_law_X6_init : GoodIn wsL_law wsX6_init := goodIn_r _ [6, 7, 8, 9, 10, 11, 12, 13, 14, 15, 16, 17, 18, 19, 20, 21, 22, 23, 24, 25, 26, 27, 28, 29, 30, 31, 32, 33, 34, 35, 36, 37, 38, 39, 40, 41, 42, 43, 44, 45, 46, 47, 48, 49, 50, 51, 52, 53, 54, 55, 56, 57, 58, 59, 60, 61, 62, 63, 64, 65, 66, 67, 68, 69, 70, 71, 72, 73, 74, 75, 76, 77, 78, 79, 80, 81, 82, 83, 84, 85, 86, 87, 88, 89, 90, 91, 92, 93, 94, 95, 96, 605, 606, 607, 608, 609, 610, 611, 612, 613, 598, 599, 600, 601, 602, 603, 604, 614, 615, 616, 617, 618, 619, 620, 621, 622, 623, 624, 625, 626, 627, 628, 629, 630, 631, 632, 633, 634, 635, 636, 637, 638, 639, 640, 641, 642, 643, 644] (by decide +kernel) (by decide +kernel)
set_option maxRecDepth 20000 in
theorem gL_law_X6_init : GoodIn wsL_law (wsX6_init) := ggL_law_X6_init
set_option maxRecDepth 20000 in
theorem ggL_law_L_holds : GoodIn wsL_law wsL_holds := goodIn_r _ [100, 101, 102, 103, 104, 2, 105, 106, 13, 107, 108, 109, 110, 111, 112, 113, 114, 115, 116, 31, 117, 54, 118, 119, 120, 121, 51, 52, 53, 122, 123, 124, 125, 126, 127, 128, 129, 20, 24, 25, 130, 131, 132, 12, 133, 43, 36, 40, 32, 44, 134, 47, 45, 46, 135, 136, 137, 138, 35, 139, 58, 140, 141, 142, 143, 66, 144, 145, 146, 147, 148, 149, 150, 151, 64, 152, 153, 154, 155, 156, 157, 158, 159, 160, 161, 162, 163, 164, 165, 166, 167, 168, 169, 170, 171, 42, 172, 173, 174, 175, 176, 177, 178, 179, 180, 181, 182, 39, 183, 71, 184, 185, 186, 187, 188, 189, 190, 191, 192, 193, 194, 195, 196, 197, 198, 199, 200, 201, 202, 203, 204, 205, 206, 207, 208, 59, 209, 210, 211, 212, 213, 214, 215, 216, 217, 99, 218, 219, 220, 221, 222, 223, 224, 225, 226, 227, 228, 229, 230, 231, 63, 232, 233, 234, 235, 236, 237, 238, 239, 60, 61, 240, 598, 599, 600, 601, 602, 603, 604, 605, 606, 607, 608, 609, 610, 611, 612, 613, 625, 626, 627, 628, 614, 615, 616, 617, 618, 619, 620, 621, 622, 623, 624, 629, 630, 631, 632, 633, 634, 635, 636, 637, 638, 639, 640, 641, 642, 643, 644] (by decide +kernel) (by decide +kernel)
set_option maxRecDepth 20000 in
theorem gL_law_L_holds : GoodIn wsL_law (va_wsS RL 115 yL_holds wsL_holds) := goodIn_app (goodIn_of _ (by decide +kernel)) ggL_law_L_holds
set_option maxRecDepth 20000 in
theorem ggL_law_X6_undo : GoodIn wsL_law wsX6_undo := goodIn_r _ [244, 20, 245, 13, 246, 247, 248, 19, 249, 84, 82, 83, 250, 251, 252, 253, 254, 255, 256, 12, 257, 32, 36, 40, 42, 258, 259, 260, 261, 43, 44, 45, 46, 47, 262, 263, 264, 31, 265, 51, 266, 52, 53, 54, 267, 268, 269, 35, 270, 58, 59, 271, 60, 61, 62, 63, 64, 65, 66, 67, 272, 273, 274, 39, 275, 71, 72, 276, 73, 74, 75, 76, 598, 599, 600, 601, 602, 603, 604, 614, 615, 616, 605, 606, 607, 608, 609, 610, 611, 612, 613, 625, 626, 627, 628, 629, 630, 631, 632, 633, 634, 635, 636, 637, 638, 639, 640, 641, 642, 643, 644] (by decide +kernel) (by decide +kernel)
set_option maxRecDepth 20000 in
theorem gL_law_X6_undo : GoodIn wsL_law (wsV RL 118 RX6 yX6_undo wsX6_undo) := goodIn_app (goodIn_of _ (by decide +kernel)) ggL_law_X6_undo
set_option maxRecDepth 20000 in
theorem ggL_law_X6_dealer : GoodIn wsL_law wsX6_dealer := goodIn_r _ [280, 14, 13, 281, 255, 256, 12, 257, 32, 36, 40, 42, 258, 259, 260, 261, 43, 44, 45, 46, 47, 262, 263, 264, 31, 265, 51, 266, 52, 53, 54, 267, 268, 269, 35, 270, 58, 59, 271, 60, 61, 62, 63, 64, 65, 66, 67, 272, 273, 274, 39, 275, 71, 72, 276, 73, 74, 75, 76, 282, 283, 284, 285, 286, 287, 288, 289, 2, 290, 20, 291, 292, 293, 19, 294, 84, 83, 82, 250, 251, 252, 253, 254, 598, 599, 600, 601, 602, 603, 604, 605, 606, 607, 608, 609, 610, 611, 612, 613, 625, 626, 627, 628, 629, 630, 631, 632, 633, 634, 635, 636, 637, 638, 639, 640, 641, 642, 643, 644, 614, 615, 616] (by decide +kernel) (by decide +kernel)
set_option maxRecDepth 20000 in
theorem gL_law_X6_dealer : GoodIn wsL_law (wsV RL 70 RX6 yX6_dealer wsX6_dealer) := goodIn_app (goodIn_of _ (by decide +kernel)) ggL_law_X6_dealer
set_option maxRecDepth 20000 in
theorem ggL_law_X6_stone : GoodIn wsL_law wsX6_stone := goodIn_r _ [298, 14, 13, 281, 255, 256, 12, 257, 32, 36, 40, 42, 258, 259, 260, 261, 43, 44, 45, 46, 47, 262, 263, 264, 31, 265, 51, 266, 52, 53, 54, 267, 268, 269, 35, 270, 58, 59, 271, 60, 61, 62, 63, 64, 65, 66, 67, 272, 273, 274, 39, 275, 71, 72, 276, 73, 74, 75, 76, 299, 300, 301, 302, 135, 286, 303, 225, 226, 227, 112, 2, 113, 304, 305, 306, 307, 287, 288, 289, 290, 20, 291, 292, 293, 19, 294, 84, 83, 82, 250, 251, 252, 253, 254, 598, 599, 600, 601, 602, 603, 604, 605, 606, 607, 608, 609, 610, 611, 612, 613, 625, 626, 627, 628, 629, 630, 631, 632, 633, 634, 635, 636, 637, 638, 639, 640, 641, 642, 643, 644, 614, 615, 616] (by decide +kernel) (by decide +kernel)
set_option maxRecDepth 20000 in
theorem gL_law_X6_stone : GoodIn wsL_law (wsV RL 66 RX6 yX6_stone wsX6_stone) := goodIn_app (goodIn_of _ (by decide +kernel)) ggL_law_X6_stone
set_option maxRecDepth 20000 in
theorem ggL_law_X6_rate : GoodIn wsL_law wsX6_rate := goodIn_r _ [311, 14, 13, 281, 255, 256, 12, 257, 32, 36, 40, 42, 258, 259, 260, 261, 43, 44, 45, 46, 47, 262, 263, 264, 31, 265, 51, 266, 52, 53, 54, 267, 268, 269, 35, 270, 58, 59, 271, 60, 61, 62, 63, 64, 65, 66, 67, 272, 273, 274, 39, 275, 71, 72, 276, 73, 74, 75, 76, 312, 313, 314, 315, 135, 286, 109, 2, 110, 111, 112, 113, 316, 115, 116, 117, 118, 119, 120, 121, 317, 318, 319, 320, 321, 322, 323, 324, 287, 288, 289, 290, 20, 291, 292, 293, 19, 294, 84, 83, 82, 250, 251, 252, 253, 254, 598, 599, 600, 601, 602, 603, 604, 605, 606, 607, 608, 609, 610, 611, 612, 613, 625, 626, 627, 628, 629, 630, 631, 632, 633, 634, 635, 636, 637, 638, 639, 640, 641, 642, 643, 644, 614, 615, 616] (by decide +kernel) (by decide +kernel)
set_option maxRecDepth 20000 in
theorem gL_law_X6_rate : GoodIn wsL_law (wsV RL 77 RX6 yX6_rate wsX6_rate) := goodIn_app (goodIn_of _ (by decide +kernel)) ggL_law_X6_rate
set_option maxRecDepth 20000 in
theorem ggL_law_L_lot : GoodIn wsL_law wsL_lot := goodIn_r _ [327, 328] (by decide +kernel) (by decide +kernel)
set_option maxRecDepth 20000 in
theorem gL_law_L_lot : GoodIn wsL_law (va_wsS RL 121 yL_lot wsL_lot) := goodIn_app (goodIn_of _ (by decide +kernel)) ggL_law_L_lot
set_option maxRecDepth 20000 in
theorem ggL_law_L_digest : GoodIn wsL_law wsL_digest := goodIn_r _ [331, 332, 333, 126, 127, 128, 2, 129, 20, 24, 25, 13, 130, 131, 132, 12, 133, 43, 36, 40, 32, 44, 134, 47, 45, 46, 135, 136, 137, 138, 35, 139, 58, 140, 141, 142, 143, 66, 144, 145, 146, 147, 148, 149, 150, 151, 64, 152, 153, 154, 155, 156, 157, 158, 159, 160, 161, 162, 163, 164, 165, 166, 31, 167, 54, 168, 169, 170, 171, 42, 172, 173, 174, 175, 192, 193, 194, 195, 106, 196, 197, 198, 199, 200, 201, 202, 203, 204, 205, 206, 207, 208, 59, 209, 210, 211, 212, 213, 214, 123, 124, 125, 51, 52, 53, 215, 334, 335, 336, 337, 224, 225, 226, 227, 338, 339, 340, 341, 342, 343, 344, 345, 346, 347, 348, 349, 65, 176, 177, 178, 179, 180, 181, 182, 39, 183, 71, 184, 185, 186, 187, 188, 189, 190, 191, 102, 103, 104, 105, 107, 108, 109, 110, 111, 112, 113, 114, 115, 116, 117, 118, 119, 120, 121, 122, 598, 599, 600, 601, 602, 603, 604, 614, 615, 616, 617, 618, 619, 620, 621, 622, 623, 624, 605, 606, 607, 608, 609, 610, 611, 612, 613, 629, 630, 631, 632, 633, 634, 635, 636, 637, 638, 639, 640, 641, 642, 643, 644, 625, 626, 627, 628] (by decide +kernel) (by decide +kernel)
set_option maxRecDepth 20000 in
theorem gL_law_L_digest : GoodIn wsL_law (va_wsS RL 125 yL_digest wsL_digest) := goodIn_app (goodIn_of _ (by decide +kernel)) ggL_law_L_digest
set_option maxRecDepth 20000 in
theorem ggL_law_X6_count : GoodIn wsL_law wsX6_count := goodIn_r _ [129, 20, 24, 25, 13, 130, 131, 132, 12, 133, 43, 36, 40, 32, 44, 134, 47, 45, 46, 135, 136, 137, 138, 35, 139, 58, 140, 141, 142, 143, 66, 144, 145, 146, 147, 148, 149, 150, 151, 64, 152, 153, 154, 155, 156, 157, 158, 159, 160, 161, 162, 163, 164, 165, 166, 31, 167, 54, 168, 169, 170, 171, 42, 172, 173, 174, 175, 598, 599, 600, 601, 602, 603, 604, 614, 615, 616, 617, 618, 619, 620, 621, 622, 623, 624, 605, 606, 607, 608, 609, 610, 611, 612, 613, 629, 630, 631, 632, 633, 634, 635, 636, 637, 638, 639, 640, 641, 642, 643, 644, 625, 626, 627, 628] (by decide +kernel) (by decide +kernel)
set_option maxRecDepth 20000 in
theorem gL_law_X6_count : GoodIn wsL_law (wsV RL 13 RX6 yX6_count wsX6_count) := goodIn_app (goodIn_of _ (by decide +kernel)) ggL_law_X6_count
set_option maxRecDepth 20000 in
theorem ggL_law_L_acts : GoodIn wsL_law wsL_acts := goodIn_r _ [352, 353, 354, 3, 216, 217, 99, 218, 219, 126, 127, 128, 2, 129, 20, 24, 25, 13, 130, 131, 132, 12, 133, 43, 36, 40, 32, 44, 134, 47, 45, 46, 135, 136, 137, 138, 35, 139, 58, 140, 141, 142, 143, 66, 144, 145, 146, 147, 148, 149, 150, 151, 64, 152, 153, 154, 155, 156, 157, 158, 159, 160, 161, 162, 163, 164, 165, 166, 31, 167, 54, 168, 169, 170, 171, 42, 172, 173, 174, 175, 192, 193, 194, 195, 106, 196, 197, 198, 199, 200, 201, 202, 203, 204, 205, 206, 207, 208, 59, 209, 210, 211, 212, 213, 214, 123, 124, 125, 51, 52, 53, 215, 295, 296, 297, 298, 14, 281, 255, 256, 257, 258, 259, 260, 261, 262, 263, 264, 265, 266, 267, 268, 269, 270, 271, 60, 61, 62, 63, 65, 67, 272, 273, 274, 39, 275, 71, 72, 276, 73, 74, 75, 76, 299, 300, 301, 302, 286, 303, 225, 226, 227, 112, 113, 304, 305, 306, 307, 287, 288, 289, 290, 291, 292, 293, 19, 294, 84, 83, 82, 250, 251, 252, 253, 254, 277, 278, 279, 280, 282, 283, 284, 285, 102, 103, 104, 105, 107, 108, 109, 110, 111, 114, 115, 116, 117, 118, 119, 120, 121, 122, 355, 356, 357, 358, 359, 360, 361, 362, 363, 316, 317, 318, 319, 320, 308, 309, 310, 311, 312, 313, 314, 315, 321, 322, 323, 324, 364, 365, 366, 367, 368, 369, 370, 371, 372, 373, 374, 375, 376, 377, 378, 379, 176, 177, 178, 179, 180, 181, 182, 183, 184, 185, 186, 187, 188, 189, 190, 191, 380, 381, 382, 383, 384, 385, 386, 387, 388, 389, 390, 391, 392, 393, 394, 395, 396, 397, 398, 399, 400, 401, 402, 403, 404, 405, 406, 407, 408, 334, 335, 336, 337, 224, 338, 339, 340, 341, 342, 343, 344, 345, 346, 347, 348, 349, 409, 410, 411, 412, 413, 414, 415, 416, 417, 418, 419, 420, 421, 422, 423, 424, 425, 426, 427, 428, 429, 430, 431, 432, 433, 434, 435, 436, 437, 438, 439, 440, 441, 442, 443, 444, 445, 446, 447, 448, 16, 449, 450, 451, 452, 245, 453, 454, 455, 456, 457, 458, 459, 460, 461, 462, 463, 464, 465, 466, 467, 468, 469, 23, 470, 90, 471, 89, 472, 473, 474, 475, 476, 477, 478, 479, 480, 481, 482, 15, 483, 484, 485, 486, 94, 487, 93, 488, 489, 490, 491, 91, 492, 493, 494, 495, 496, 497, 498, 499, 500, 501, 502, 503, 504, 505, 506, 507, 508, 509, 510, 511, 512, 513, 514, 515, 516, 517, 518, 519, 520, 521, 522, 523, 524, 525, 526, 527, 528, 529, 530, 531, 532, 533, 534, 535, 536, 537, 538, 539, 540, 541, 542, 543, 544, 545, 546, 547, 548, 549, 550, 551, 552, 553, 554, 555, 556, 557, 558, 92, 559, 560, 561, 562, 563, 564, 565, 566, 567, 568, 569, 570, 571, 572, 573, 95, 96, 574, 575, 576, 577, 578, 579, 580, 581, 582, 583, 584, 585, 586, 587, 588, 589, 590, 591, 592, 593, 594, 595, 596, 597, 598, 599, 600, 601, 602, 603, 604, 614, 615, 616, 617, 618, 619, 620, 621, 622, 623, 624, 605, 606, 607, 608, 609, 610, 611, 612, 613, 629, 630, 631, 632, 633, 634, 635, 636, 637, 638, 639, 640, 641, 642, 643, 644, 625, 626, 627, 628] (by decide +kernel) (by decide +kernel)
set_option maxRecDepth 20000 in
theorem gL_law_L_acts : GoodIn wsL_law (va_wsS RL 129 yL_acts wsL_acts) := goodIn_app (goodIn_of _ (by decide +kernel)) ggL_law_L_acts
set_option maxRecDepth 20000 in
theorem ggL_law_L_low : GoodIn wsL_law wsL_low := goodIn_r _ [218, 219] (by decide +kernel) (by decide +kernel)
set_option maxRecDepth 20000 in
theorem gL_law_L_low : GoodIn wsL_law (va_wsS RL 33 yL_low wsL_low) := goodIn_app (goodIn_of _ (by decide +kernel)) ggL_law_L_low
theorem dL_law_0 : decode cL_law 0 = .ok (.new 14, 3) := by decide +kernel
theorem dL_law_3 : decode cL_law 3 = .ok (.dup, 1) := by decide +kernel
theorem dL_law_4 : decode cL_law 4 = .ok (.invokespecial 114, 3) := by decide +kernel
theorem dL_law_7 : decode cL_law 7 = .ok (.astore_n 1, 1) := by decide +kernel
theorem dL_law_8 : decode cL_law 8 = .ok (.aload_n 1, 1) := by decide +kernel
theorem dL_law_9 : decode cL_law 9 = .ok (.iconst 0, 1) := by decide +kernel
theorem dL_law_10 : decode cL_law 10 = .ok (.invokestatic 115, 3) := by decide +kernel
theorem dL_law_13 : decode cL_law 13 = .ok (.ifCond .eq 56, 3) := by decide +kernel
theorem dL_law_16 : decode cL_law 16 = .ok (.aload_n 1, 1) := by decide +kernel
theorem dL_law_17 : decode cL_law 17 = .ok (.invokevirtual 118, 3) := by decide +kernel
theorem dL_law_20 : decode cL_law 20 = .ok (.ldc 64, 2) := by decide +kernel
theorem dL_law_22 : decode cL_law 22 = .ok (.if_icmp .ne 47, 3) := by decide +kernel
theorem dL_law_25 : decode cL_law 25 = .ok (.aload_n 1, 1) := by decide +kernel
theorem dL_law_26 : decode cL_law 26 = .ok (.invokevirtual 70, 3) := by decide +kernel
theorem dL_law_29 : decode cL_law 29 = .ok (.ifCond .ne 40, 3) := by decide +kernel
theorem dL_law_32 : decode cL_law 32 = .ok (.aload_n 1, 1) := by decide +kernel
theorem dL_law_33 : decode cL_law 33 = .ok (.invokevirtual 70, 3) := by decide +kernel
theorem dL_law_36 : decode cL_law 36 = .ok (.iconst 1, 1) := by decide +kernel
theorem dL_law_37 : decode cL_law 37 = .ok (.if_icmp .ne 32, 3) := by decide +kernel
theorem dL_law_40 : decode cL_law 40 = .ok (.aload_n 1, 1) := by decide +kernel
theorem dL_law_41 : decode cL_law 41 = .ok (.iconst 0, 1) := by decide +kernel
theorem dL_law_42 : decode cL_law 42 = .ok (.bipush 60, 2) := by decide +kernel
theorem dL_law_44 : decode cL_law 44 = .ok (.iconst 4, 1) := by decide +kernel
theorem dL_law_45 : decode cL_law 45 = .ok (.iconst 4, 1) := by decide +kernel
theorem dL_law_46 : decode cL_law 46 = .ok (.invokevirtual 66, 3) := by decide +kernel
theorem dL_law_49 : decode cL_law 49 = .ok (.ifCond .ne 20, 3) := by decide +kernel
theorem dL_law_52 : decode cL_law 52 = .ok (.aload_n 1, 1) := by decide +kernel
theorem dL_law_53 : decode cL_law 53 = .ok (.iconst 3, 1) := by decide +kernel
theorem dL_law_54 : decode cL_law 54 = .ok (.iconst 5, 1) := by decide +kernel
theorem dL_law_55 : decode cL_law 55 = .ok (.iconst 5, 1) := by decide +kernel
theorem dL_law_56 : decode cL_law 56 = .ok (.sipush 300, 3) := by decide +kernel
theorem dL_law_59 : decode cL_law 59 = .ok (.invokevirtual 77, 3) := by decide +kernel
theorem dL_law_62 : decode cL_law 62 = .ok (.ifCond .ne 7, 3) := by decide +kernel
theorem dL_law_65 : decode cL_law 65 = .ok (.iconst 1, 1) := by decide +kernel
theorem dL_law_66 : decode cL_law 66 = .ok (.goto 4, 3) := by decide +kernel
theorem dL_law_69 : decode cL_law 69 = .ok (.iconst 0, 1) := by decide +kernel
theorem dL_law_70 : decode cL_law 70 = .ok (.istore_n 2, 1) := by decide +kernel
theorem dL_law_71 : decode cL_law 71 = .ok (.iconst 0, 1) := by decide +kernel
theorem dL_law_72 : decode cL_law 72 = .ok (.istore_n 3, 1) := by decide +kernel
theorem dL_law_73 : decode cL_law 73 = .ok (.iload_n 3, 1) := by decide +kernel
theorem dL_law_74 : decode cL_law 74 = .ok (.bipush 32, 2) := by decide +kernel
theorem dL_law_76 : decode cL_law 76 = .ok (.if_icmp .ge 219, 3) := by decide +kernel
theorem dL_law_79 : decode cL_law 79 = .ok (.iload_n 2, 1) := by decide +kernel
theorem dL_law_80 : decode cL_law 80 = .ok (.ifCond .eq 215, 3) := by decide +kernel
theorem dL_law_83 : decode cL_law 83 = .ok (.aload_n 0, 1) := by decide +kernel
theorem dL_law_84 : decode cL_law 84 = .ok (.iconst 2, 1) := by decide +kernel
theorem dL_law_85 : decode cL_law 85 = .ok (.iload_n 3, 1) := by decide +kernel
theorem dL_law_86 : decode cL_law 86 = .ok (.imul, 1) := by decide +kernel
theorem dL_law_87 : decode cL_law 87 = .ok (.invokestatic 121, 3) := by decide +kernel
theorem dL_law_90 : decode cL_law 90 = .ok (.istore 4, 2) := by decide +kernel
theorem dL_law_92 : decode cL_law 92 = .ok (.aload_n 0, 1) := by decide +kernel
theorem dL_law_93 : decode cL_law 93 = .ok (.iconst 2, 1) := by decide +kernel
theorem dL_law_94 : decode cL_law 94 = .ok (.iload_n 3, 1) := by decide +kernel
theorem dL_law_95 : decode cL_law 95 = .ok (.imul, 1) := by decide +kernel
theorem dL_law_96 : decode cL_law 96 = .ok (.iconst 1, 1) := by decide +kernel
theorem dL_law_97 : decode cL_law 97 = .ok (.iadd, 1) := by decide +kernel
theorem dL_law_98 : decode cL_law 98 = .ok (.invokestatic 121, 3) := by decide +kernel
theorem dL_law_101 : decode cL_law 101 = .ok (.istore 5, 2) := by decide +kernel
theorem dL_law_103 : decode cL_law 103 = .ok (.aload_n 1, 1) := by decide +kernel
theorem dL_law_104 : decode cL_law 104 = .ok (.invokestatic 125, 3) := by decide +kernel
theorem dL_law_107 : decode cL_law 107 = .ok (.lstore 6, 2) := by decide +kernel
theorem dL_law_109 : decode cL_law 109 = .ok (.aload_n 1, 1) := by decide +kernel
theorem dL_law_110 : decode cL_law 110 = .ok (.bipush 11, 2) := by decide +kernel
theorem dL_law_112 : decode cL_law 112 = .ok (.invokevirtual 13, 3) := by decide +kernel
theorem dL_law_115 : decode cL_law 115 = .ok (.istore 8, 2) := by decide +kernel
theorem dL_law_117 : decode cL_law 117 = .ok (.aload_n 1, 1) := by decide +kernel
theorem dL_law_118 : decode cL_law 118 = .ok (.iload 4, 2) := by decide +kernel
theorem dL_law_120 : decode cL_law 120 = .ok (.iload 5, 2) := by decide +kernel
theorem dL_law_122 : decode cL_law 122 = .ok (.invokestatic 129, 3) := by decide +kernel
theorem dL_law_125 : decode cL_law 125 = .ok (.ifCond .eq 16, 3) := by decide +kernel
theorem dL_law_128 : decode cL_law 128 = .ok (.aload_n 1, 1) := by decide +kernel
theorem dL_law_129 : decode cL_law 129 = .ok (.iload 5, 2) := by decide +kernel
theorem dL_law_131 : decode cL_law 131 = .ok (.invokestatic 115, 3) := by decide +kernel
theorem dL_law_134 : decode cL_law 134 = .ok (.ifCond .eq 7, 3) := by decide +kernel
theorem dL_law_137 : decode cL_law 137 = .ok (.iconst 1, 1) := by decide +kernel
theorem dL_law_138 : decode cL_law 138 = .ok (.goto 4, 3) := by decide +kernel
theorem dL_law_141 : decode cL_law 141 = .ok (.iconst 0, 1) := by decide +kernel
theorem dL_law_142 : decode cL_law 142 = .ok (.istore_n 2, 1) := by decide +kernel
theorem dL_law_143 : decode cL_law 143 = .ok (.aload_n 1, 1) := by decide +kernel
theorem dL_law_144 : decode cL_law 144 = .ok (.bipush 11, 2) := by decide +kernel
theorem dL_law_146 : decode cL_law 146 = .ok (.invokevirtual 13, 3) := by decide +kernel
theorem dL_law_149 : decode cL_law 149 = .ok (.istore 9, 2) := by decide +kernel
theorem dL_law_151 : decode cL_law 151 = .ok (.iload_n 2, 1) := by decide +kernel
theorem dL_law_152 : decode cL_law 152 = .ok (.ifCond .eq 39, 3) := by decide +kernel
theorem dL_law_155 : decode cL_law 155 = .ok (.iload 9, 2) := by decide +kernel
theorem dL_law_157 : decode cL_law 157 = .ok (.iload 8, 2) := by decide +kernel
theorem dL_law_159 : decode cL_law 159 = .ok (.if_icmp .ne 19, 3) := by decide +kernel
theorem dL_law_162 : decode cL_law 162 = .ok (.iload 8, 2) := by decide +kernel
theorem dL_law_164 : decode cL_law 164 = .ok (.iconst 4, 1) := by decide +kernel
theorem dL_law_165 : decode cL_law 165 = .ok (.if_icmp .eq 22, 3) := by decide +kernel
theorem dL_law_168 : decode cL_law 168 = .ok (.aload_n 1, 1) := by decide +kernel
theorem dL_law_169 : decode cL_law 169 = .ok (.invokestatic 125, 3) := by decide +kernel
theorem dL_law_172 : decode cL_law 172 = .ok (.lload 6, 2) := by decide +kernel
theorem dL_law_174 : decode cL_law 174 = .ok (.lcmp, 1) := by decide +kernel
theorem dL_law_175 : decode cL_law 175 = .ok (.ifCond .eq 12, 3) := by decide +kernel
theorem dL_law_178 : decode cL_law 178 = .ok (.iload 9, 2) := by decide +kernel
theorem dL_law_180 : decode cL_law 180 = .ok (.iload 8, 2) := by decide +kernel
theorem dL_law_182 : decode cL_law 182 = .ok (.iconst 1, 1) := by decide +kernel
theorem dL_law_183 : decode cL_law 183 = .ok (.iadd, 1) := by decide +kernel
theorem dL_law_184 : decode cL_law 184 = .ok (.if_icmp .ne 7, 3) := by decide +kernel
theorem dL_law_187 : decode cL_law 187 = .ok (.iconst 1, 1) := by decide +kernel
theorem dL_law_188 : decode cL_law 188 = .ok (.goto 4, 3) := by decide +kernel
theorem dL_law_191 : decode cL_law 191 = .ok (.iconst 0, 1) := by decide +kernel
theorem dL_law_192 : decode cL_law 192 = .ok (.istore_n 2, 1) := by decide +kernel
theorem dL_law_193 : decode cL_law 193 = .ok (.iload_n 2, 1) := by decide +kernel
theorem dL_law_194 : decode cL_law 194 = .ok (.ifCond .eq 49, 3) := by decide +kernel
theorem dL_law_197 : decode cL_law 197 = .ok (.iload 9, 2) := by decide +kernel
theorem dL_law_199 : decode cL_law 199 = .ok (.iload 8, 2) := by decide +kernel
theorem dL_law_201 : decode cL_law 201 = .ok (.iconst 1, 1) := by decide +kernel
theorem dL_law_202 : decode cL_law 202 = .ok (.iadd, 1) := by decide +kernel
theorem dL_law_203 : decode cL_law 203 = .ok (.if_icmp .ne 40, 3) := by decide +kernel
theorem dL_law_206 : decode cL_law 206 = .ok (.iload 5, 2) := by decide +kernel
theorem dL_law_208 : decode cL_law 208 = .ok (.bipush 8, 2) := by decide +kernel
theorem dL_law_210 : decode cL_law 210 = .ok (.ishr, 1) := by decide +kernel
theorem dL_law_211 : decode cL_law 211 = .ok (.iconst 3, 1) := by decide +kernel
theorem dL_law_212 : decode cL_law 212 = .ok (.invokestatic 33, 3) := by decide +kernel
theorem dL_law_215 : decode cL_law 215 = .ok (.ifCond .ne 28, 3) := by decide +kernel
theorem dL_law_218 : decode cL_law 218 = .ok (.aload_n 1, 1) := by decide +kernel
theorem dL_law_219 : decode cL_law 219 = .ok (.invokevirtual 118, 3) := by decide +kernel
theorem dL_law_222 : decode cL_law 222 = .ok (.iload 8, 2) := by decide +kernel
theorem dL_law_224 : decode cL_law 224 = .ok (.if_icmp .ne 17, 3) := by decide +kernel
theorem dL_law_227 : decode cL_law 227 = .ok (.aload_n 1, 1) := by decide +kernel
theorem dL_law_228 : decode cL_law 228 = .ok (.invokestatic 125, 3) := by decide +kernel
theorem dL_law_231 : decode cL_law 231 = .ok (.lload 6, 2) := by decide +kernel
theorem dL_law_233 : decode cL_law 233 = .ok (.lcmp, 1) := by decide +kernel
theorem dL_law_234 : decode cL_law 234 = .ok (.ifCond .ne 7, 3) := by decide +kernel
theorem dL_law_237 : decode cL_law 237 = .ok (.iconst 1, 1) := by decide +kernel
theorem dL_law_238 : decode cL_law 238 = .ok (.goto 4, 3) := by decide +kernel
theorem dL_law_241 : decode cL_law 241 = .ok (.iconst 0, 1) := by decide +kernel
theorem dL_law_242 : decode cL_law 242 = .ok (.istore_n 2, 1) := by decide +kernel
theorem dL_law_243 : decode cL_law 243 = .ok (.iload_n 2, 1) := by decide +kernel
theorem dL_law_244 : decode cL_law 244 = .ok (.ifCond .eq 45, 3) := by decide +kernel
theorem dL_law_247 : decode cL_law 247 = .ok (.iload_n 3, 1) := by decide +kernel
theorem dL_law_248 : decode cL_law 248 = .ok (.iconst 5, 1) := by decide +kernel
theorem dL_law_249 : decode cL_law 249 = .ok (.irem, 1) := by decide +kernel
theorem dL_law_250 : decode cL_law 250 = .ok (.iconst 4, 1) := by decide +kernel
theorem dL_law_251 : decode cL_law 251 = .ok (.if_icmp .ne 38, 3) := by decide +kernel
theorem dL_law_254 : decode cL_law 254 = .ok (.aload_n 1, 1) := by decide +kernel
theorem dL_law_255 : decode cL_law 255 = .ok (.bipush 11, 2) := by decide +kernel
theorem dL_law_257 : decode cL_law 257 = .ok (.invokevirtual 13, 3) := by decide +kernel
theorem dL_law_260 : decode cL_law 260 = .ok (.istore 10, 2) := by decide +kernel
theorem dL_law_262 : decode cL_law 262 = .ok (.aload_n 1, 1) := by decide +kernel
theorem dL_law_263 : decode cL_law 263 = .ok (.invokevirtual 118, 3) := by decide +kernel
theorem dL_law_266 : decode cL_law 266 = .ok (.iload 10, 2) := by decide +kernel
theorem dL_law_268 : decode cL_law 268 = .ok (.ifCond .ne 8, 3) := by decide +kernel
theorem dL_law_271 : decode cL_law 271 = .ok (.ldc 64, 2) := by decide +kernel
theorem dL_law_273 : decode cL_law 273 = .ok (.goto 7, 3) := by decide +kernel
theorem dL_law_276 : decode cL_law 276 = .ok (.iload 10, 2) := by decide +kernel
theorem dL_law_278 : decode cL_law 278 = .ok (.iconst 1, 1) := by decide +kernel
theorem dL_law_279 : decode cL_law 279 = .ok (.isub, 1) := by decide +kernel
theorem dL_law_280 : decode cL_law 280 = .ok (.if_icmp .ne 7, 3) := by decide +kernel
theorem dL_law_283 : decode cL_law 283 = .ok (.iconst 1, 1) := by decide +kernel
theorem dL_law_284 : decode cL_law 284 = .ok (.goto 4, 3) := by decide +kernel
theorem dL_law_287 : decode cL_law 287 = .ok (.iconst 0, 1) := by decide +kernel
theorem dL_law_288 : decode cL_law 288 = .ok (.istore_n 2, 1) := by decide +kernel
theorem dL_law_289 : decode cL_law 289 = .ok (.iinc 3 1, 3) := by decide +kernel
theorem dL_law_292 : decode cL_law 292 = .ok (.goto (-219), 3) := by decide +kernel
theorem dL_law_295 : decode cL_law 295 = .ok (.iload_n 2, 1) := by decide +kernel
theorem dL_law_296 : decode cL_law 296 = .ok (.ireturn, 1) := by decide +kernel
abbrev vwCl : List vw_C := [(RX0, TX0, 3), (RX1, TX1, 9), (RX2, TX2, 6), (RX3, TX3, 4), (RX4, TX4, 8), (RX5, TX5, 10), (RX6, TX6, 7)]
