theorem dL_law_606 : decode bL_law 606 = .ok (.goto 659, 3) := by decide +kernel
theorem dL_law_609 : decode bL_law 609 = .ok (.aload_n 1, 1) := by decide +kernel
theorem dL_law_610 : decode bL_law 610 = .ok (.aload_n 0, 1) := by decide +kernel
theorem dL_law_611 : decode bL_law 611 = .ok (.iload 4, 2) := by decide +kernel
theorem dL_law_613 : decode bL_law 613 = .ok (.iconst 1, 1) := by decide +kernel
theorem dL_law_614 : decode bL_law 614 = .ok (.iadd, 1) := by decide +kernel
theorem dL_law_615 : decode bL_law 615 = .ok (.iaload, 1) := by decide +kernel
theorem dL_law_616 : decode bL_law 616 = .ok (.aload_n 0, 1) := by decide +kernel
theorem dL_law_617 : decode bL_law 617 = .ok (.iload 4, 2) := by decide +kernel
theorem dL_law_619 : decode bL_law 619 = .ok (.iconst 2, 1) := by decide +kernel
theorem dL_law_620 : decode bL_law 620 = .ok (.iadd, 1) := by decide +kernel
theorem dL_law_621 : decode bL_law 621 = .ok (.iaload, 1) := by decide +kernel
theorem dL_law_622 : decode bL_law 622 = .ok (.aload_n 0, 1) := by decide +kernel
theorem dL_law_623 : decode bL_law 623 = .ok (.iload 4, 2) := by decide +kernel
theorem dL_law_625 : decode bL_law 625 = .ok (.iconst 3, 1) := by decide +kernel
theorem dL_law_626 : decode bL_law 626 = .ok (.iadd, 1) := by decide +kernel
theorem dL_law_627 : decode bL_law 627 = .ok (.iaload, 1) := by decide +kernel
theorem dL_law_628 : decode bL_law 628 = .ok (.aload_n 3, 1) := by decide +kernel
theorem dL_law_629 : decode bL_law 629 = .ok (.invokestatic 106, 3) := by decide +kernel
theorem dL_law_632 : decode bL_law 632 = .ok (.istore 5, 2) := by decide +kernel
theorem dL_law_634 : decode bL_law 634 = .ok (.aload_n 2, 1) := by decide +kernel
theorem dL_law_635 : decode bL_law 635 = .ok (.aload_n 0, 1) := by decide +kernel
theorem dL_law_636 : decode bL_law 636 = .ok (.iload 4, 2) := by decide +kernel
theorem dL_law_638 : decode bL_law 638 = .ok (.iconst 1, 1) := by decide +kernel
theorem dL_law_639 : decode bL_law 639 = .ok (.iadd, 1) := by decide +kernel
theorem dL_law_640 : decode bL_law 640 = .ok (.iaload, 1) := by decide +kernel
theorem dL_law_641 : decode bL_law 641 = .ok (.aload_n 0, 1) := by decide +kernel
theorem dL_law_642 : decode bL_law 642 = .ok (.iload 4, 2) := by decide +kernel
theorem dL_law_644 : decode bL_law 644 = .ok (.iconst 2, 1) := by decide +kernel
theorem dL_law_645 : decode bL_law 645 = .ok (.iadd, 1) := by decide +kernel
theorem dL_law_646 : decode bL_law 646 = .ok (.iaload, 1) := by decide +kernel
theorem dL_law_647 : decode bL_law 647 = .ok (.aload_n 0, 1) := by decide +kernel
theorem dL_law_648 : decode bL_law 648 = .ok (.iload 4, 2) := by decide +kernel
theorem dL_law_650 : decode bL_law 650 = .ok (.iconst 3, 1) := by decide +kernel
theorem dL_law_651 : decode bL_law 651 = .ok (.iadd, 1) := by decide +kernel
theorem dL_law_652 : decode bL_law 652 = .ok (.iaload, 1) := by decide +kernel
theorem dL_law_653 : decode bL_law 653 = .ok (.invokevirtual 109, 3) := by decide +kernel
theorem dL_law_656 : decode bL_law 656 = .ok (.istore 6, 2) := by decide +kernel
theorem dL_law_658 : decode bL_law 658 = .ok (.aload_n 2, 1) := by decide +kernel
theorem dL_law_659 : decode bL_law 659 = .ok (.invokevirtual 84, 3) := by decide +kernel
theorem dL_law_662 : decode bL_law 662 = .ok (.iload 5, 2) := by decide +kernel
theorem dL_law_664 : decode bL_law 664 = .ok (.if_icmp .eq 5, 3) := by decide +kernel
theorem dL_law_669 : decode bL_law 669 = .ok (.iload 5, 2) := by decide +kernel
theorem dL_law_671 : decode bL_law 671 = .ok (.ifCond .ne 15, 3) := by decide +kernel
theorem dL_law_686 : decode bL_law 686 = .ok (.goto 579, 3) := by decide +kernel
theorem dL_law_689 : decode bL_law 689 = .ok (.aload_n 1, 1) := by decide +kernel
theorem dL_law_690 : decode bL_law 690 = .ok (.aload_n 0, 1) := by decide +kernel
theorem dL_law_691 : decode bL_law 691 = .ok (.iload 4, 2) := by decide +kernel
theorem dL_law_693 : decode bL_law 693 = .ok (.iconst 1, 1) := by decide +kernel
theorem dL_law_694 : decode bL_law 694 = .ok (.iadd, 1) := by decide +kernel
theorem dL_law_695 : decode bL_law 695 = .ok (.iaload, 1) := by decide +kernel
theorem dL_law_696 : decode bL_law 696 = .ok (.aload_n 0, 1) := by decide +kernel
theorem dL_law_697 : decode bL_law 697 = .ok (.iload 4, 2) := by decide +kernel
theorem dL_law_699 : decode bL_law 699 = .ok (.iconst 2, 1) := by decide +kernel
theorem dL_law_700 : decode bL_law 700 = .ok (.iadd, 1) := by decide +kernel
theorem dL_law_701 : decode bL_law 701 = .ok (.iaload, 1) := by decide +kernel
theorem dL_law_702 : decode bL_law 702 = .ok (.aload_n 3, 1) := by decide +kernel
theorem dL_law_703 : decode bL_law 703 = .ok (.invokestatic 110, 3) := by decide +kernel
theorem dL_law_706 : decode bL_law 706 = .ok (.istore 5, 2) := by decide +kernel
theorem dL_law_708 : decode bL_law 708 = .ok (.aload_n 2, 1) := by decide +kernel
theorem dL_law_709 : decode bL_law 709 = .ok (.aload_n 0, 1) := by decide +kernel
theorem dL_law_710 : decode bL_law 710 = .ok (.iload 4, 2) := by decide +kernel
theorem dL_law_712 : decode bL_law 712 = .ok (.iconst 1, 1) := by decide +kernel
theorem dL_law_713 : decode bL_law 713 = .ok (.iadd, 1) := by decide +kernel
theorem dL_law_714 : decode bL_law 714 = .ok (.iaload, 1) := by decide +kernel
theorem dL_law_715 : decode bL_law 715 = .ok (.aload_n 0, 1) := by decide +kernel
theorem dL_law_716 : decode bL_law 716 = .ok (.iload 4, 2) := by decide +kernel
theorem dL_law_718 : decode bL_law 718 = .ok (.iconst 2, 1) := by decide +kernel
theorem dL_law_719 : decode bL_law 719 = .ok (.iadd, 1) := by decide +kernel
theorem dL_law_720 : decode bL_law 720 = .ok (.iaload, 1) := by decide +kernel
theorem dL_law_721 : decode bL_law 721 = .ok (.invokevirtual 112, 3) := by decide +kernel
theorem dL_law_724 : decode bL_law 724 = .ok (.istore 6, 2) := by decide +kernel
theorem dL_law_726 : decode bL_law 726 = .ok (.aload_n 2, 1) := by decide +kernel
theorem dL_law_727 : decode bL_law 727 = .ok (.invokevirtual 84, 3) := by decide +kernel
theorem dL_law_730 : decode bL_law 730 = .ok (.iload 5, 2) := by decide +kernel
theorem dL_law_732 : decode bL_law 732 = .ok (.if_icmp .eq 5, 3) := by decide +kernel
theorem dL_law_737 : decode bL_law 737 = .ok (.iload 5, 2) := by decide +kernel
theorem dL_law_739 : decode bL_law 739 = .ok (.ifCond .ne 15, 3) := by decide +kernel
theorem dL_law_754 : decode bL_law 754 = .ok (.goto 511, 3) := by decide +kernel
theorem dL_law_757 : decode bL_law 757 = .ok (.aload_n 1, 1) := by decide +kernel
theorem dL_law_758 : decode bL_law 758 = .ok (.aload_n 0, 1) := by decide +kernel
theorem dL_law_759 : decode bL_law 759 = .ok (.iload 4, 2) := by decide +kernel
theorem dL_law_761 : decode bL_law 761 = .ok (.iconst 1, 1) := by decide +kernel
theorem dL_law_762 : decode bL_law 762 = .ok (.iadd, 1) := by decide +kernel
theorem dL_law_763 : decode bL_law 763 = .ok (.iaload, 1) := by decide +kernel
theorem dL_law_764 : decode bL_law 764 = .ok (.aload_n 0, 1) := by decide +kernel
theorem dL_law_765 : decode bL_law 765 = .ok (.iload 4, 2) := by decide +kernel
theorem dL_law_767 : decode bL_law 767 = .ok (.iconst 2, 1) := by decide +kernel
theorem dL_law_768 : decode bL_law 768 = .ok (.iadd, 1) := by decide +kernel
theorem dL_law_769 : decode bL_law 769 = .ok (.iaload, 1) := by decide +kernel
theorem dL_law_770 : decode bL_law 770 = .ok (.aload_n 3, 1) := by decide +kernel
theorem dL_law_771 : decode bL_law 771 = .ok (.invokestatic 113, 3) := by decide +kernel
theorem dL_law_774 : decode bL_law 774 = .ok (.istore 5, 2) := by decide +kernel
theorem dL_law_776 : decode bL_law 776 = .ok (.aload_n 2, 1) := by decide +kernel
theorem dL_law_777 : decode bL_law 777 = .ok (.aload_n 0, 1) := by decide +kernel
theorem dL_law_778 : decode bL_law 778 = .ok (.iload 4, 2) := by decide +kernel
theorem dL_law_780 : decode bL_law 780 = .ok (.iconst 1, 1) := by decide +kernel
theorem dL_law_781 : decode bL_law 781 = .ok (.iadd, 1) := by decide +kernel
theorem dL_law_782 : decode bL_law 782 = .ok (.iaload, 1) := by decide +kernel
theorem dL_law_783 : decode bL_law 783 = .ok (.aload_n 0, 1) := by decide +kernel
theorem dL_law_784 : decode bL_law 784 = .ok (.iload 4, 2) := by decide +kernel
theorem dL_law_786 : decode bL_law 786 = .ok (.iconst 2, 1) := by decide +kernel
theorem dL_law_787 : decode bL_law 787 = .ok (.iadd, 1) := by decide +kernel
theorem dL_law_788 : decode bL_law 788 = .ok (.iaload, 1) := by decide +kernel
theorem dL_law_789 : decode bL_law 789 = .ok (.invokevirtual 115, 3) := by decide +kernel
theorem dL_law_792 : decode bL_law 792 = .ok (.istore 6, 2) := by decide +kernel
theorem dL_law_794 : decode bL_law 794 = .ok (.aload_n 2, 1) := by decide +kernel
theorem dL_law_795 : decode bL_law 795 = .ok (.invokevirtual 84, 3) := by decide +kernel
theorem dL_law_798 : decode bL_law 798 = .ok (.iload 5, 2) := by decide +kernel
theorem dL_law_800 : decode bL_law 800 = .ok (.if_icmp .eq 5, 3) := by decide +kernel
theorem dL_law_805 : decode bL_law 805 = .ok (.iload 5, 2) := by decide +kernel
theorem dL_law_807 : decode bL_law 807 = .ok (.ifCond .ne 15, 3) := by decide +kernel
theorem dL_law_822 : decode bL_law 822 = .ok (.goto 443, 3) := by decide +kernel
theorem dL_law_825 : decode bL_law 825 = .ok (.aload_n 1, 1) := by decide +kernel
theorem dL_law_826 : decode bL_law 826 = .ok (.aload_n 0, 1) := by decide +kernel
theorem dL_law_827 : decode bL_law 827 = .ok (.iload 4, 2) := by decide +kernel
theorem dL_law_829 : decode bL_law 829 = .ok (.iconst 1, 1) := by decide +kernel
theorem dL_law_830 : decode bL_law 830 = .ok (.iadd, 1) := by decide +kernel
theorem dL_law_831 : decode bL_law 831 = .ok (.iaload, 1) := by decide +kernel
theorem dL_law_832 : decode bL_law 832 = .ok (.aload_n 0, 1) := by decide +kernel
