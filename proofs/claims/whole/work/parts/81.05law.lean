/-! decode rows of the law -/
theorem dL_law_763 : decode mL.2.1 763 = .ok (.aload_n 0, 1) := by decide +kernel
theorem dL_law_764 : decode mL.2.1 764 = .ok (.iload_n 3, 1) := by decide +kernel
theorem dL_law_765 : decode mL.2.1 765 = .ok (.iconst 1, 1) := by decide +kernel
theorem dL_law_766 : decode mL.2.1 766 = .ok (.iadd, 1) := by decide +kernel
theorem dL_law_767 : decode mL.2.1 767 = .ok (.iaload, 1) := by decide +kernel
theorem dL_law_768 : decode mL.2.1 768 = .ok (.invokevirtual 104, 3) := by decide +kernel
theorem dL_law_771 : decode mL.2.1 771 = .ok (.if_icmp .eq 724, 3) := by decide +kernel
theorem dL_law_776 : decode mL.2.1 776 = .ok (.aload_n 1, 1) := by decide +kernel
theorem dL_law_777 : decode mL.2.1 777 = .ok (.aload_n 0, 1) := by decide +kernel
theorem dL_law_778 : decode mL.2.1 778 = .ok (.iload_n 3, 1) := by decide +kernel
theorem dL_law_779 : decode mL.2.1 779 = .ok (.iconst 1, 1) := by decide +kernel
theorem dL_law_780 : decode mL.2.1 780 = .ok (.iadd, 1) := by decide +kernel
theorem dL_law_781 : decode mL.2.1 781 = .ok (.iaload, 1) := by decide +kernel
theorem dL_law_782 : decode mL.2.1 782 = .ok (.invokevirtual 105, 3) := by decide +kernel
theorem dL_law_785 : decode mL.2.1 785 = .ok (.aload_n 2, 1) := by decide +kernel
theorem dL_law_786 : decode mL.2.1 786 = .ok (.aload_n 0, 1) := by decide +kernel
theorem dL_law_787 : decode mL.2.1 787 = .ok (.iload_n 3, 1) := by decide +kernel
theorem dL_law_788 : decode mL.2.1 788 = .ok (.iconst 1, 1) := by decide +kernel
theorem dL_law_789 : decode mL.2.1 789 = .ok (.iadd, 1) := by decide +kernel
theorem dL_law_790 : decode mL.2.1 790 = .ok (.iaload, 1) := by decide +kernel
theorem dL_law_791 : decode mL.2.1 791 = .ok (.invokevirtual 108, 3) := by decide +kernel
theorem dL_law_794 : decode mL.2.1 794 = .ok (.if_icmp .eq 701, 3) := by decide +kernel
theorem dL_law_799 : decode mL.2.1 799 = .ok (.aload_n 1, 1) := by decide +kernel
theorem dL_law_800 : decode mL.2.1 800 = .ok (.aload_n 0, 1) := by decide +kernel
theorem dL_law_801 : decode mL.2.1 801 = .ok (.iload_n 3, 1) := by decide +kernel
theorem dL_law_802 : decode mL.2.1 802 = .ok (.iconst 1, 1) := by decide +kernel
theorem dL_law_803 : decode mL.2.1 803 = .ok (.iadd, 1) := by decide +kernel
theorem dL_law_804 : decode mL.2.1 804 = .ok (.iaload, 1) := by decide +kernel
theorem dL_law_805 : decode mL.2.1 805 = .ok (.aload_n 0, 1) := by decide +kernel
theorem dL_law_806 : decode mL.2.1 806 = .ok (.iload_n 3, 1) := by decide +kernel
theorem dL_law_807 : decode mL.2.1 807 = .ok (.iconst 2, 1) := by decide +kernel
theorem dL_law_808 : decode mL.2.1 808 = .ok (.iadd, 1) := by decide +kernel
theorem dL_law_809 : decode mL.2.1 809 = .ok (.iaload, 1) := by decide +kernel
theorem dL_law_810 : decode mL.2.1 810 = .ok (.invokevirtual 109, 3) := by decide +kernel
theorem dL_law_813 : decode mL.2.1 813 = .ok (.aload_n 2, 1) := by decide +kernel
theorem dL_law_814 : decode mL.2.1 814 = .ok (.aload_n 0, 1) := by decide +kernel
theorem dL_law_815 : decode mL.2.1 815 = .ok (.iload_n 3, 1) := by decide +kernel
theorem dL_law_816 : decode mL.2.1 816 = .ok (.iconst 1, 1) := by decide +kernel
theorem dL_law_817 : decode mL.2.1 817 = .ok (.iadd, 1) := by decide +kernel
theorem dL_law_818 : decode mL.2.1 818 = .ok (.iaload, 1) := by decide +kernel
theorem dL_law_819 : decode mL.2.1 819 = .ok (.aload_n 0, 1) := by decide +kernel
theorem dL_law_820 : decode mL.2.1 820 = .ok (.iload_n 3, 1) := by decide +kernel
theorem dL_law_821 : decode mL.2.1 821 = .ok (.iconst 2, 1) := by decide +kernel
theorem dL_law_822 : decode mL.2.1 822 = .ok (.iadd, 1) := by decide +kernel
theorem dL_law_823 : decode mL.2.1 823 = .ok (.iaload, 1) := by decide +kernel
theorem dL_law_824 : decode mL.2.1 824 = .ok (.invokevirtual 112, 3) := by decide +kernel
theorem dL_law_827 : decode mL.2.1 827 = .ok (.if_icmp .eq 668, 3) := by decide +kernel
theorem dL_law_832 : decode mL.2.1 832 = .ok (.aload_n 1, 1) := by decide +kernel
theorem dL_law_833 : decode mL.2.1 833 = .ok (.invokevirtual 113, 3) := by decide +kernel
theorem dL_law_836 : decode mL.2.1 836 = .ok (.aload_n 2, 1) := by decide +kernel
theorem dL_law_837 : decode mL.2.1 837 = .ok (.invokevirtual 116, 3) := by decide +kernel
theorem dL_law_840 : decode mL.2.1 840 = .ok (.if_icmp .eq 655, 3) := by decide +kernel
theorem dL_law_845 : decode mL.2.1 845 = .ok (.aload_n 1, 1) := by decide +kernel
theorem dL_law_846 : decode mL.2.1 846 = .ok (.aload_n 0, 1) := by decide +kernel
theorem dL_law_847 : decode mL.2.1 847 = .ok (.iload_n 3, 1) := by decide +kernel
theorem dL_law_848 : decode mL.2.1 848 = .ok (.iconst 1, 1) := by decide +kernel
theorem dL_law_849 : decode mL.2.1 849 = .ok (.iadd, 1) := by decide +kernel
theorem dL_law_850 : decode mL.2.1 850 = .ok (.iaload, 1) := by decide +kernel
theorem dL_law_851 : decode mL.2.1 851 = .ok (.aload_n 0, 1) := by decide +kernel
theorem dL_law_852 : decode mL.2.1 852 = .ok (.iload_n 3, 1) := by decide +kernel
theorem dL_law_853 : decode mL.2.1 853 = .ok (.iconst 2, 1) := by decide +kernel
theorem dL_law_854 : decode mL.2.1 854 = .ok (.iadd, 1) := by decide +kernel
theorem dL_law_855 : decode mL.2.1 855 = .ok (.iaload, 1) := by decide +kernel
theorem dL_law_856 : decode mL.2.1 856 = .ok (.invokevirtual 117, 3) := by decide +kernel
theorem dL_law_859 : decode mL.2.1 859 = .ok (.aload_n 2, 1) := by decide +kernel
theorem dL_law_860 : decode mL.2.1 860 = .ok (.aload_n 0, 1) := by decide +kernel
theorem dL_law_861 : decode mL.2.1 861 = .ok (.iload_n 3, 1) := by decide +kernel
theorem dL_law_862 : decode mL.2.1 862 = .ok (.iconst 1, 1) := by decide +kernel
theorem dL_law_863 : decode mL.2.1 863 = .ok (.iadd, 1) := by decide +kernel
theorem dL_law_864 : decode mL.2.1 864 = .ok (.iaload, 1) := by decide +kernel
theorem dL_law_865 : decode mL.2.1 865 = .ok (.aload_n 0, 1) := by decide +kernel
theorem dL_law_866 : decode mL.2.1 866 = .ok (.iload_n 3, 1) := by decide +kernel
theorem dL_law_867 : decode mL.2.1 867 = .ok (.iconst 2, 1) := by decide +kernel
theorem dL_law_868 : decode mL.2.1 868 = .ok (.iadd, 1) := by decide +kernel
theorem dL_law_869 : decode mL.2.1 869 = .ok (.iaload, 1) := by decide +kernel
