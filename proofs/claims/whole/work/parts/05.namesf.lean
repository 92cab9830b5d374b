theorem dL_law_647 : decode bL_law 647 = .ok (.aload_n 0, 1) := by decide +kernel
theorem dL_law_648 : decode bL_law 648 = .ok (.iload 4, 2) := by decide +kernel
theorem dL_law_650 : decode bL_law 650 = .ok (.iconst 3, 1) := by decide +kernel
theorem dL_law_651 : decode bL_law 651 = .ok (.iadd, 1) := by decide +kernel
theorem dL_law_652 : decode bL_law 652 = .ok (.iaload, 1) := by decide +kernel
theorem dL_law_653 : decode bL_law 653 = .ok (.invokevirtual 109, 3) := by decide +kernel
theorem dL_law_656 : decode bL_law 656 = .ok (.istore 6, 2) := by decide +kernel
theorem dL_law_658 : decode bL_law 658 = .ok (.aload_n 2, 1) := by decide +kernel
theorem dL_law_659 : decode bL_law 659 = .ok (.invokevirtual 84, 3) := by decide +kernel
theorem dL_law_662 : decode bL_law 662 = .ok (.iload 5, 2) := by decide +kernel
theorem dL_law_664 : decode bL_law 664 = .ok (.if_icmp .eq 5, 3) := by decide +kernel
theorem dL_law_669 : decode bL_law 669 = .ok (.iload 5, 2) := by decide +kernel
theorem dL_law_671 : decode bL_law 671 = .ok (.ifCond .ne 15, 3) := by decide +kernel
theorem dL_law_686 : decode bL_law 686 = .ok (.goto 579, 3) := by decide +kernel
theorem dL_law_689 : decode bL_law 689 = .ok (.aload_n 1, 1) := by decide +kernel
theorem dL_law_690 : decode bL_law 690 = .ok (.aload_n 0, 1) := by decide +kernel
theorem dL_law_691 : decode bL_law 691 = .ok (.iload 4, 2) := by decide +kernel
theorem dL_law_693 : decode bL_law 693 = .ok (.iconst 1, 1) := by decide +kernel
theorem dL_law_694 : decode bL_law 694 = .ok (.iadd, 1) := by decide +kernel
theorem dL_law_695 : decode bL_law 695 = .ok (.iaload, 1) := by decide +kernel
theorem dL_law_696 : decode bL_law 696 = .ok (.aload_n 0, 1) := by decide +kernel
theorem dL_law_697 : decode bL_law 697 = .ok (.iload 4, 2) := by decide +kernel
theorem dL_law_699 : decode bL_law 699 = .ok (.iconst 2, 1) := by decide +kernel
theorem dL_law_700 : decode bL_law 700 = .ok (.iadd, 1) := by decide +kernel
theorem dL_law_701 : decode bL_law 701 = .ok (.iaload, 1) := by decide +kernel
theorem dL_law_702 : decode bL_law 702 = .ok (.aload_n 3, 1) := by decide +kernel
theorem dL_law_703 : decode bL_law 703 = .ok (.invokestatic 110, 3) := by decide +kernel
theorem dL_law_706 : decode bL_law 706 = .ok (.istore 5, 2) := by decide +kernel
theorem dL_law_708 : decode bL_law 708 = .ok (.aload_n 2, 1) := by decide +kernel
theorem dL_law_709 : decode bL_law 709 = .ok (.aload_n 0, 1) := by decide +kernel
theorem dL_law_710 : decode bL_law 710 = .ok (.iload 4, 2) := by decide +kernel
theorem dL_law_712 : decode bL_law 712 = .ok (.iconst 1, 1) := by decide +kernel
theorem dL_law_713 : decode bL_law 713 = .ok (.iadd, 1) := by decide +kernel
theorem dL_law_714 : decode bL_law 714 = .ok (.iaload, 1) := by decide +kernel
theorem dL_law_715 : decode bL_law 715 = .ok (.aload_n 0, 1) := by decide +kernel
theorem dL_law_716 : decode bL_law 716 = .ok (.iload 4, 2) := by decide +kernel
theorem dL_law_718 : decode bL_law 718 = .ok (.iconst 2, 1) := by decide +kernel
theorem dL_law_719 : decode bL_law 719 = .ok (.iadd, 1) := by decide +kernel
theorem dL_law_720 : decode bL_law 720 = .ok (.iaload, 1) := by decide +kernel
theorem dL_law_721 : decode bL_law 721 = .ok (.invokevirtual 112, 3) := by decide +kernel
theorem dL_law_724 : decode bL_law 724 = .ok (.istore 6, 2) := by decide +kernel
theorem dL_law_726 : decode bL_law 726 = .ok (.aload_n 2, 1) := by decide +kernel
theorem dL_law_727 : decode bL_law 727 = .ok (.invokevirtual 84, 3) := by decide +kernel
theorem dL_law_730 : decode bL_law 730 = .ok (.iload 5, 2) := by decide +kernel
theorem dL_law_732 : decode bL_law 732 = .ok (.if_icmp .eq 5, 3) := by decide +kernel
theorem dL_law_737 : decode bL_law 737 = .ok (.iload 5, 2) := by decide +kernel
theorem dL_law_739 : decode bL_law 739 = .ok (.ifCond .ne 15, 3) := by decide +kernel
theorem dL_law_754 : decode bL_law 754 = .ok (.goto 511, 3) := by decide +kernel
theorem dL_law_757 : decode bL_law 757 = .ok (.aload_n 1, 1) := by decide +kernel
theorem dL_law_758 : decode bL_law 758 = .ok (.aload_n 0, 1) := by decide +kernel
theorem dL_law_759 : decode bL_law 759 = .ok (.iload 4, 2) := by decide +kernel
theorem dL_law_761 : decode bL_law 761 = .ok (.iconst 1, 1) := by decide +kernel
theorem dL_law_762 : decode bL_law 762 = .ok (.iadd, 1) := by decide +kernel
theorem dL_law_763 : decode bL_law 763 = .ok (.iaload, 1) := by decide +kernel
theorem dL_law_764 : decode bL_law 764 = .ok (.aload_n 0, 1) := by decide +kernel
theorem dL_law_765 : decode bL_law 765 = .ok (.iload 4, 2) := by decide +kernel
theorem dL_law_767 : decode bL_law 767 = .ok (.iconst 2, 1) := by decide +kernel
theorem dL_law_768 : decode bL_law 768 = .ok (.iadd, 1) := by decide +kernel
theorem dL_law_769 : decode bL_law 769 = .ok (.iaload, 1) := by decide +kernel
theorem dL_law_770 : decode bL_law 770 = .ok (.aload_n 3, 1) := by decide +kernel
theorem dL_law_771 : decode bL_law 771 = .ok (.invokestatic 113, 3) := by decide +kernel
theorem dL_law_774 : decode bL_law 774 = .ok (.istore 5, 2) := by decide +kernel
theorem dL_law_776 : decode bL_law 776 = .ok (.aload_n 2, 1) := by decide +kernel
theorem dL_law_777 : decode bL_law 777 = .ok (.aload_n 0, 1) := by decide +kernel
theorem dL_law_778 : decode bL_law 778 = .ok (.iload 4, 2) := by decide +kernel
theorem dL_law_780 : decode bL_law 780 = .ok (.iconst 1, 1) := by decide +kernel
theorem dL_law_781 : decode bL_law 781 = .ok (.iadd, 1) := by decide +kernel
theorem dL_law_782 : decode bL_law 782 = .ok (.iaload, 1) := by decide +kernel
theorem dL_law_783 : decode bL_law 783 = .ok (.aload_n 0, 1) := by decide +kernel
theorem dL_law_784 : decode bL_law 784 = .ok (.iload 4, 2) := by decide +kernel
theorem dL_law_786 : decode bL_law 786 = .ok (.iconst 2, 1) := by decide +kernel
theorem dL_law_787 : decode bL_law 787 = .ok (.iadd, 1) := by decide +kernel
theorem dL_law_788 : decode bL_law 788 = .ok (.iaload, 1) := by decide +kernel
theorem dL_law_789 : decode bL_law 789 = .ok (.invokevirtual 115, 3) := by decide +kernel
theorem dL_law_792 : decode bL_law 792 = .ok (.istore 6, 2) := by decide +kernel
theorem dL_law_794 : decode bL_law 794 = .ok (.aload_n 2, 1) := by decide +kernel
theorem dL_law_795 : decode bL_law 795 = .ok (.invokevirtual 84, 3) := by decide +kernel
theorem dL_law_798 : decode bL_law 798 = .ok (.iload 5, 2) := by decide +kernel
theorem dL_law_800 : decode bL_law 800 = .ok (.if_icmp .eq 5, 3) := by decide +kernel
theorem dL_law_805 : decode bL_law 805 = .ok (.iload 5, 2) := by decide +kernel
theorem dL_law_807 : decode bL_law 807 = .ok (.ifCond .ne 15, 3) := by decide +kernel
theorem dL_law_822 : decode bL_law 822 = .ok (.goto 443, 3) := by decide +kernel
theorem dL_law_825 : decode bL_law 825 = .ok (.aload_n 1, 1) := by decide +kernel
theorem dL_law_826 : decode bL_law 826 = .ok (.aload_n 0, 1) := by decide +kernel
theorem dL_law_827 : decode bL_law 827 = .ok (.iload 4, 2) := by decide +kernel
theorem dL_law_829 : decode bL_law 829 = .ok (.iconst 1, 1) := by decide +kernel
theorem dL_law_830 : decode bL_law 830 = .ok (.iadd, 1) := by decide +kernel
theorem dL_law_831 : decode bL_law 831 = .ok (.iaload, 1) := by decide +kernel
theorem dL_law_832 : decode bL_law 832 = .ok (.aload_n 0, 1) := by decide +kernel
theorem dL_law_833 : decode bL_law 833 = .ok (.iload 4, 2) := by decide +kernel
theorem dL_law_835 : decode bL_law 835 = .ok (.iconst 2, 1) := by decide +kernel
theorem dL_law_836 : decode bL_law 836 = .ok (.iadd, 1) := by decide +kernel
theorem dL_law_837 : decode bL_law 837 = .ok (.iaload, 1) := by decide +kernel
theorem dL_law_838 : decode bL_law 838 = .ok (.aload_n 3, 1) := by decide +kernel
theorem dL_law_839 : decode bL_law 839 = .ok (.invokestatic 116, 3) := by decide +kernel
theorem dL_law_842 : decode bL_law 842 = .ok (.istore 5, 2) := by decide +kernel
theorem dL_law_844 : decode bL_law 844 = .ok (.aload_n 2, 1) := by decide +kernel
theorem dL_law_845 : decode bL_law 845 = .ok (.aload_n 0, 1) := by decide +kernel
theorem dL_law_846 : decode bL_law 846 = .ok (.iload 4, 2) := by decide +kernel
theorem dL_law_848 : decode bL_law 848 = .ok (.iconst 1, 1) := by decide +kernel
theorem dL_law_849 : decode bL_law 849 = .ok (.iadd, 1) := by decide +kernel
theorem dL_law_850 : decode bL_law 850 = .ok (.iaload, 1) := by decide +kernel
theorem dL_law_851 : decode bL_law 851 = .ok (.aload_n 0, 1) := by decide +kernel
theorem dL_law_852 : decode bL_law 852 = .ok (.iload 4, 2) := by decide +kernel
theorem dL_law_854 : decode bL_law 854 = .ok (.iconst 2, 1) := by decide +kernel
theorem dL_law_855 : decode bL_law 855 = .ok (.iadd, 1) := by decide +kernel
theorem dL_law_856 : decode bL_law 856 = .ok (.iaload, 1) := by decide +kernel
theorem dL_law_857 : decode bL_law 857 = .ok (.invokevirtual 118, 3) := by decide +kernel
theorem dL_law_860 : decode bL_law 860 = .ok (.istore 6, 2) := by decide +kernel
theorem dL_law_862 : decode bL_law 862 = .ok (.aload_n 2, 1) := by decide +kernel
theorem dL_law_863 : decode bL_law 863 = .ok (.invokevirtual 84, 3) := by decide +kernel
theorem dL_law_866 : decode bL_law 866 = .ok (.iload 5, 2) := by decide +kernel
theorem dL_law_868 : decode bL_law 868 = .ok (.if_icmp .eq 5, 3) := by decide +kernel
theorem dL_law_873 : decode bL_law 873 = .ok (.iload 5, 2) := by decide +kernel
theorem dL_law_875 : decode bL_law 875 = .ok (.ifCond .ne 15, 3) := by decide +kernel
theorem dL_law_890 : decode bL_law 890 = .ok (.goto 375, 3) := by decide +kernel
theorem dL_law_893 : decode bL_law 893 = .ok (.aload_n 1, 1) := by decide +kernel
theorem dL_law_894 : decode bL_law 894 = .ok (.aload_n 0, 1) := by decide +kernel
theorem dL_law_895 : decode bL_law 895 = .ok (.iload 4, 2) := by decide +kernel
theorem dL_law_897 : decode bL_law 897 = .ok (.iconst 1, 1) := by decide +kernel
