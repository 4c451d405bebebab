theorem dL_law_594 : decode cL_law 594 = .ok (.iload 14, 2) := by decide +kernel
theorem dL_law_596 : decode cL_law 596 = .ok (.ifCond .eq 24, 3) := by decide +kernel
theorem dL_law_599 : decode cL_law 599 = .ok (.iload 11, 2) := by decide +kernel
theorem dL_law_601 : decode cL_law 601 = .ok (.aload_n 3, 1) := by decide +kernel
theorem dL_law_602 : decode cL_law 602 = .ok (.bipush 20, 2) := by decide +kernel
theorem dL_law_604 : decode cL_law 604 = .ok (.iload 13, 2) := by decide +kernel
theorem dL_law_606 : decode cL_law 606 = .ok (.iadd, 1) := by decide +kernel
theorem dL_law_607 : decode cL_law 607 = .ok (.iaload, 1) := by decide +kernel
theorem dL_law_608 : decode cL_law 608 = .ok (.aload_n 2, 1) := by decide +kernel
theorem dL_law_609 : decode cL_law 609 = .ok (.aload_n 3, 1) := by decide +kernel
theorem dL_law_610 : decode cL_law 610 = .ok (.aload 4, 2) := by decide +kernel
theorem dL_law_612 : decode cL_law 612 = .ok (.aload 5, 2) := by decide +kernel
theorem dL_law_614 : decode cL_law 614 = .ok (.invokestatic 75, 3) := by decide +kernel
theorem dL_law_617 : decode cL_law 617 = .ok (.goto 4, 3) := by decide +kernel
theorem dL_law_620 : decode cL_law 620 = .ok (.iconst (-1), 1) := by decide +kernel
theorem dL_law_621 : decode cL_law 621 = .ok (.istore 17, 2) := by decide +kernel
theorem dL_law_623 : decode cL_law 623 = .ok (.iload 17, 2) := by decide +kernel
theorem dL_law_625 : decode cL_law 625 = .ok (.ifCond .ge 8, 3) := by decide +kernel
theorem dL_law_628 : decode cL_law 628 = .ok (.bipush (-3), 2) := by decide +kernel
theorem dL_law_630 : decode cL_law 630 = .ok (.goto 5, 3) := by decide +kernel
theorem dL_law_633 : decode cL_law 633 = .ok (.iload 17, 2) := by decide +kernel
theorem dL_law_635 : decode cL_law 635 = .ok (.istore 15, 2) := by decide +kernel
theorem dL_law_637 : decode cL_law 637 = .ok (.iload 17, 2) := by decide +kernel
theorem dL_law_639 : decode cL_law 639 = .ok (.ifCond .lt 43, 3) := by decide +kernel
theorem dL_law_642 : decode cL_law 642 = .ok (.aload_n 3, 1) := by decide +kernel
theorem dL_law_643 : decode cL_law 643 = .ok (.bipush 26, 2) := by decide +kernel
theorem dL_law_645 : decode cL_law 645 = .ok (.dup2, 1) := by decide +kernel
theorem dL_law_646 : decode cL_law 646 = .ok (.iaload, 1) := by decide +kernel
theorem dL_law_647 : decode cL_law 647 = .ok (.iconst 1, 1) := by decide +kernel
theorem dL_law_648 : decode cL_law 648 = .ok (.iadd, 1) := by decide +kernel
theorem dL_law_649 : decode cL_law 649 = .ok (.iastore, 1) := by decide +kernel
theorem dL_law_650 : decode cL_law 650 = .ok (.aload 6, 2) := by decide +kernel
theorem dL_law_652 : decode cL_law 652 = .ok (.bipush 6, 2) := by decide +kernel
theorem dL_law_654 : decode cL_law 654 = .ok (.aload_n 2, 1) := by decide +kernel
theorem dL_law_655 : decode cL_law 655 = .ok (.iload 17, 2) := by decide +kernel
theorem dL_law_657 : decode cL_law 657 = .ok (.iaload, 1) := by decide +kernel
theorem dL_law_658 : decode cL_law 658 = .ok (.imul, 1) := by decide +kernel
theorem dL_law_659 : decode cL_law 659 = .ok (.iload 13, 2) := by decide +kernel
theorem dL_law_661 : decode cL_law 661 = .ok (.iadd, 1) := by decide +kernel
theorem dL_law_662 : decode cL_law 662 = .ok (.aload_n 3, 1) := by decide +kernel
theorem dL_law_663 : decode cL_law 663 = .ok (.bipush 26, 2) := by decide +kernel
theorem dL_law_665 : decode cL_law 665 = .ok (.iaload, 1) := by decide +kernel
theorem dL_law_666 : decode cL_law 666 = .ok (.iastore, 1) := by decide +kernel
theorem dL_law_667 : decode cL_law 667 = .ok (.iload 17, 2) := by decide +kernel
theorem dL_law_669 : decode cL_law 669 = .ok (.iload 13, 2) := by decide +kernel
theorem dL_law_671 : decode cL_law 671 = .ok (.aload_n 2, 1) := by decide +kernel
theorem dL_law_672 : decode cL_law 672 = .ok (.aload_n 3, 1) := by decide +kernel
theorem dL_law_673 : decode cL_law 673 = .ok (.aload 4, 2) := by decide +kernel
theorem dL_law_675 : decode cL_law 675 = .ok (.aload 6, 2) := by decide +kernel
theorem dL_law_677 : decode cL_law 677 = .ok (.invokestatic 78, 3) := by decide +kernel
theorem dL_law_680 : decode cL_law 680 = .ok (.istore 18, 2) := by decide +kernel
theorem dL_law_682 : decode cL_law 682 = .ok (.aload_n 1, 1) := by decide +kernel
theorem dL_law_683 : decode cL_law 683 = .ok (.bipush 8, 2) := by decide +kernel
theorem dL_law_685 : decode cL_law 685 = .ok (.iload 11, 2) := by decide +kernel
theorem dL_law_687 : decode cL_law 687 = .ok (.aload_n 3, 1) := by decide +kernel
theorem dL_law_688 : decode cL_law 688 = .ok (.bipush 20, 2) := by decide +kernel
theorem dL_law_690 : decode cL_law 690 = .ok (.iload 13, 2) := by decide +kernel
theorem dL_law_692 : decode cL_law 692 = .ok (.iadd, 1) := by decide +kernel
theorem dL_law_693 : decode cL_law 693 = .ok (.iaload, 1) := by decide +kernel
theorem dL_law_694 : decode cL_law 694 = .ok (.iload 17, 2) := by decide +kernel
theorem dL_law_696 : decode cL_law 696 = .ok (.ifCond .lt 10, 3) := by decide +kernel
theorem dL_law_699 : decode cL_law 699 = .ok (.aload_n 3, 1) := by decide +kernel
theorem dL_law_700 : decode cL_law 700 = .ok (.bipush 26, 2) := by decide +kernel
theorem dL_law_702 : decode cL_law 702 = .ok (.iaload, 1) := by decide +kernel
theorem dL_law_703 : decode cL_law 703 = .ok (.goto 4, 3) := by decide +kernel
theorem dL_law_706 : decode cL_law 706 = .ok (.iconst 0, 1) := by decide +kernel
theorem dL_law_707 : decode cL_law 707 = .ok (.invokestatic 143, 3) := by decide +kernel
theorem dL_law_710 : decode cL_law 710 = .ok (.istore 16, 2) := by decide +kernel
theorem dL_law_712 : decode cL_law 712 = .ok (.goto 147, 3) := by decide +kernel
theorem dL_law_715 : decode cL_law 715 = .ok (.iload 10, 2) := by decide +kernel
theorem dL_law_717 : decode cL_law 717 = .ok (.bipush 20, 2) := by decide +kernel
theorem dL_law_719 : decode cL_law 719 = .ok (.if_icmp .ge 83, 3) := by decide +kernel
theorem dL_law_722 : decode cL_law 722 = .ok (.iconst 0, 1) := by decide +kernel
theorem dL_law_723 : decode cL_law 723 = .ok (.istore 17, 2) := by decide +kernel
theorem dL_law_725 : decode cL_law 725 = .ok (.iload 17, 2) := by decide +kernel
theorem dL_law_727 : decode cL_law 727 = .ok (.bipush 64, 2) := by decide +kernel
theorem dL_law_729 : decode cL_law 729 = .ok (.if_icmp .ge 52, 3) := by decide +kernel
theorem dL_law_732 : decode cL_law 732 = .ok (.iconst 4, 1) := by decide +kernel
theorem dL_law_733 : decode cL_law 733 = .ok (.istore 18, 2) := by decide +kernel
theorem dL_law_735 : decode cL_law 735 = .ok (.iload 18, 2) := by decide +kernel
theorem dL_law_737 : decode cL_law 737 = .ok (.bipush 8, 2) := by decide +kernel
theorem dL_law_739 : decode cL_law 739 = .ok (.if_icmp .ge 36, 3) := by decide +kernel
theorem dL_law_742 : decode cL_law 742 = .ok (.iload 17, 2) := by decide +kernel
theorem dL_law_744 : decode cL_law 744 = .ok (.aload_n 2, 1) := by decide +kernel
theorem dL_law_745 : decode cL_law 745 = .ok (.aload_n 3, 1) := by decide +kernel
theorem dL_law_746 : decode cL_law 746 = .ok (.invokestatic 45, 3) := by decide +kernel
theorem dL_law_749 : decode cL_law 749 = .ok (.ifCond .eq 26, 3) := by decide +kernel
theorem dL_law_752 : decode cL_law 752 = .ok (.iload 18, 2) := by decide +kernel
theorem dL_law_754 : decode cL_law 754 = .ok (.iload 17, 2) := by decide +kernel
theorem dL_law_756 : decode cL_law 756 = .ok (.aload_n 2, 1) := by decide +kernel
theorem dL_law_757 : decode cL_law 757 = .ok (.aload_n 3, 1) := by decide +kernel
theorem dL_law_758 : decode cL_law 758 = .ok (.aload 4, 2) := by decide +kernel
theorem dL_law_760 : decode cL_law 760 = .ok (.aload 5, 2) := by decide +kernel
theorem dL_law_762 : decode cL_law 762 = .ok (.aload 6, 2) := by decide +kernel
theorem dL_law_764 : decode cL_law 764 = .ok (.invokestatic 151, 3) := by decide +kernel
theorem dL_law_767 : decode cL_law 767 = .ok (.istore 19, 2) := by decide +kernel
theorem dL_law_769 : decode cL_law 769 = .ok (.iinc 18 1, 3) := by decide +kernel
theorem dL_law_772 : decode cL_law 772 = .ok (.goto (-37), 3) := by decide +kernel
theorem dL_law_775 : decode cL_law 775 = .ok (.iinc 17 1, 3) := by decide +kernel
theorem dL_law_778 : decode cL_law 778 = .ok (.goto (-53), 3) := by decide +kernel
theorem dL_law_781 : decode cL_law 781 = .ok (.aload_n 2, 1) := by decide +kernel
theorem dL_law_782 : decode cL_law 782 = .ok (.aload_n 3, 1) := by decide +kernel
theorem dL_law_783 : decode cL_law 783 = .ok (.aload 4, 2) := by decide +kernel
theorem dL_law_785 : decode cL_law 785 = .ok (.aload 5, 2) := by decide +kernel
theorem dL_law_787 : decode cL_law 787 = .ok (.invokestatic 92, 3) := by decide +kernel
theorem dL_law_790 : decode cL_law 790 = .ok (.istore 15, 2) := by decide +kernel
theorem dL_law_792 : decode cL_law 792 = .ok (.aload_n 1, 1) := by decide +kernel
theorem dL_law_793 : decode cL_law 793 = .ok (.iconst 1, 1) := by decide +kernel
theorem dL_law_794 : decode cL_law 794 = .ok (.invokevirtual 155, 3) := by decide +kernel
theorem dL_law_797 : decode cL_law 797 = .ok (.istore 16, 2) := by decide +kernel
theorem dL_law_799 : decode cL_law 799 = .ok (.goto 60, 3) := by decide +kernel
theorem dL_law_802 : decode cL_law 802 = .ok (.iload 14, 2) := by decide +kernel
theorem dL_law_804 : decode cL_law 804 = .ok (.ifCond .eq 7, 3) := by decide +kernel
theorem dL_law_807 : decode cL_law 807 = .ok (.iconst 1, 1) := by decide +kernel
theorem dL_law_808 : decode cL_law 808 = .ok (.goto 5, 3) := by decide +kernel
theorem dL_law_811 : decode cL_law 811 = .ok (.bipush (-3), 2) := by decide +kernel
theorem dL_law_813 : decode cL_law 813 = .ok (.istore 15, 2) := by decide +kernel
theorem dL_law_815 : decode cL_law 815 = .ok (.iload 14, 2) := by decide +kernel
theorem dL_law_817 : decode cL_law 817 = .ok (.ifCond .ne 16, 3) := by decide +kernel
theorem dL_law_820 : decode cL_law 820 = .ok (.aload_n 1, 1) := by decide +kernel
theorem dL_law_821 : decode cL_law 821 = .ok (.bipush 8, 2) := by decide +kernel
theorem dL_law_823 : decode cL_law 823 = .ok (.iload 11, 2) := by decide +kernel
theorem dL_law_825 : decode cL_law 825 = .ok (.iconst 0, 1) := by decide +kernel
theorem dL_law_826 : decode cL_law 826 = .ok (.iconst 0, 1) := by decide +kernel
theorem dL_law_827 : decode cL_law 827 = .ok (.invokestatic 143, 3) := by decide +kernel
theorem dL_law_830 : decode cL_law 830 = .ok (.goto 27, 3) := by decide +kernel
theorem dL_law_833 : decode cL_law 833 = .ok (.aload_n 1, 1) := by decide +kernel
theorem dL_law_834 : decode cL_law 834 = .ok (.iload 11, 2) := by decide +kernel
theorem dL_law_836 : decode cL_law 836 = .ok (.iload 13, 2) := by decide +kernel
theorem dL_law_838 : decode cL_law 838 = .ok (.aload_n 2, 1) := by decide +kernel
theorem dL_law_839 : decode cL_law 839 = .ok (.aload_n 3, 1) := by decide +kernel
theorem dL_law_840 : decode cL_law 840 = .ok (.aload 4, 2) := by decide +kernel
theorem dL_law_842 : decode cL_law 842 = .ok (.aload 5, 2) := by decide +kernel
theorem dL_law_844 : decode cL_law 844 = .ok (.aload 6, 2) := by decide +kernel
theorem dL_law_846 : decode cL_law 846 = .ok (.invokestatic 158, 3) := by decide +kernel
theorem dL_law_849 : decode cL_law 849 = .ok (.ifCond .eq 7, 3) := by decide +kernel
theorem dL_law_852 : decode cL_law 852 = .ok (.iconst 1, 1) := by decide +kernel
theorem dL_law_853 : decode cL_law 853 = .ok (.goto 4, 3) := by decide +kernel
theorem dL_law_856 : decode cL_law 856 = .ok (.iconst 0, 1) := by decide +kernel
theorem dL_law_857 : decode cL_law 857 = .ok (.istore 16, 2) := by decide +kernel
theorem dL_law_859 : decode cL_law 859 = .ok (.iload 16, 2) := by decide +kernel
theorem dL_law_861 : decode cL_law 861 = .ok (.iload 15, 2) := by decide +kernel
theorem dL_law_863 : decode cL_law 863 = .ok (.if_icmp .ne 18, 3) := by decide +kernel
theorem dL_law_866 : decode cL_law 866 = .ok (.aload_n 1, 1) := by decide +kernel
theorem dL_law_867 : decode cL_law 867 = .ok (.aload_n 2, 1) := by decide +kernel
theorem dL_law_868 : decode cL_law 868 = .ok (.aload_n 3, 1) := by decide +kernel
theorem dL_law_869 : decode cL_law 869 = .ok (.aload 4, 2) := by decide +kernel
theorem dL_law_871 : decode cL_law 871 = .ok (.aload 5, 2) := by decide +kernel
theorem dL_law_873 : decode cL_law 873 = .ok (.aload 6, 2) := by decide +kernel
theorem dL_law_875 : decode cL_law 875 = .ok (.invokestatic 162, 3) := by decide +kernel
theorem dL_law_878 : decode cL_law 878 = .ok (.ifCond .ne 5, 3) := by decide +kernel
theorem dL_law_881 : decode cL_law 881 = .ok (.iconst 0, 1) := by decide +kernel
theorem dL_law_882 : decode cL_law 882 = .ok (.ireturn, 1) := by decide +kernel
theorem dL_law_883 : decode cL_law 883 = .ok (.iinc 8 1, 3) := by decide +kernel
theorem dL_law_886 : decode cL_law 886 = .ok (.goto (-675), 3) := by decide +kernel
theorem dL_law_889 : decode cL_law 889 = .ok (.iconst 1, 1) := by decide +kernel
theorem dL_law_890 : decode cL_law 890 = .ok (.ireturn, 1) := by decide +kernel
