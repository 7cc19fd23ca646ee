theorem dL_law_761 : decode cL_law 761 = .ok (.i2l, 1) := by decide +kernel
theorem dL_law_762 : decode cL_law 762 = .ok (.bipush 32, 2) := by decide +kernel
theorem dL_law_764 : decode cL_law 764 = .ok (.lshl, 1) := by decide +kernel
theorem dL_law_765 : decode cL_law 765 = .ok (.aload_n 0, 1) := by decide +kernel
theorem dL_law_766 : decode cL_law 766 = .ok (.iload 4, 2) := by decide +kernel
theorem dL_law_768 : decode cL_law 768 = .ok (.iconst 2, 1) := by decide +kernel
theorem dL_law_769 : decode cL_law 769 = .ok (.iadd, 1) := by decide +kernel
theorem dL_law_770 : decode cL_law 770 = .ok (.iaload, 1) := by decide +kernel
theorem dL_law_771 : decode cL_law 771 = .ok (.i2l, 1) := by decide +kernel
theorem dL_law_772 : decode cL_law 772 = .ok (.ldc2_w 83, 3) := by decide +kernel
theorem dL_law_775 : decode cL_law 775 = .ok (.land, 1) := by decide +kernel
theorem dL_law_776 : decode cL_law 776 = .ok (.lor, 1) := by decide +kernel
theorem dL_law_777 : decode cL_law 777 = .ok (.aload_n 0, 1) := by decide +kernel
theorem dL_law_778 : decode cL_law 778 = .ok (.iload 4, 2) := by decide +kernel
theorem dL_law_780 : decode cL_law 780 = .ok (.iconst 3, 1) := by decide +kernel
theorem dL_law_781 : decode cL_law 781 = .ok (.iadd, 1) := by decide +kernel
theorem dL_law_782 : decode cL_law 782 = .ok (.iaload, 1) := by decide +kernel
theorem dL_law_783 : decode cL_law 783 = .ok (.i2l, 1) := by decide +kernel
theorem dL_law_784 : decode cL_law 784 = .ok (.bipush 32, 2) := by decide +kernel
theorem dL_law_786 : decode cL_law 786 = .ok (.lshl, 1) := by decide +kernel
theorem dL_law_787 : decode cL_law 787 = .ok (.aload_n 0, 1) := by decide +kernel
theorem dL_law_788 : decode cL_law 788 = .ok (.iload 4, 2) := by decide +kernel
theorem dL_law_790 : decode cL_law 790 = .ok (.iconst 4, 1) := by decide +kernel
theorem dL_law_791 : decode cL_law 791 = .ok (.iadd, 1) := by decide +kernel
theorem dL_law_792 : decode cL_law 792 = .ok (.iaload, 1) := by decide +kernel
theorem dL_law_793 : decode cL_law 793 = .ok (.i2l, 1) := by decide +kernel
theorem dL_law_794 : decode cL_law 794 = .ok (.ldc2_w 83, 3) := by decide +kernel
theorem dL_law_797 : decode cL_law 797 = .ok (.land, 1) := by decide +kernel
theorem dL_law_798 : decode cL_law 798 = .ok (.lor, 1) := by decide +kernel
theorem dL_law_799 : decode cL_law 799 = .ok (.invokevirtual 90, 3) := by decide +kernel
theorem dL_law_802 : decode cL_law 802 = .ok (.lstore 6, 2) := by decide +kernel
theorem dL_law_804 : decode cL_law 804 = .ok (.aload_n 2, 1) := by decide +kernel
theorem dL_law_805 : decode cL_law 805 = .ok (.invokevirtual 91, 3) := by decide +kernel
theorem dL_law_808 : decode cL_law 808 = .ok (.iload 5, 2) := by decide +kernel
theorem dL_law_810 : decode cL_law 810 = .ok (.if_icmp .eq 5, 3) := by decide +kernel
theorem dL_law_813 : decode cL_law 813 = .ok (.iconst 0, 1) := by decide +kernel
theorem dL_law_814 : decode cL_law 814 = .ok (.ireturn, 1) := by decide +kernel
theorem dL_law_815 : decode cL_law 815 = .ok (.iload 5, 2) := by decide +kernel
theorem dL_law_817 : decode cL_law 817 = .ok (.ifCond .ne 14, 3) := by decide +kernel
theorem dL_law_820 : decode cL_law 820 = .ok (.aload_n 3, 1) := by decide +kernel
theorem dL_law_821 : decode cL_law 821 = .ok (.iconst 0, 1) := by decide +kernel
theorem dL_law_822 : decode cL_law 822 = .ok (.laload, 1) := by decide +kernel
theorem dL_law_823 : decode cL_law 823 = .ok (.lload 6, 2) := by decide +kernel
theorem dL_law_825 : decode cL_law 825 = .ok (.lcmp, 1) := by decide +kernel
theorem dL_law_826 : decode cL_law 826 = .ok (.ifCond .eq 5, 3) := by decide +kernel
theorem dL_law_829 : decode cL_law 829 = .ok (.iconst 0, 1) := by decide +kernel
theorem dL_law_830 : decode cL_law 830 = .ok (.ireturn, 1) := by decide +kernel
theorem dL_law_831 : decode cL_law 831 = .ok (.goto 3, 3) := by decide +kernel
theorem dL_law_834 : decode cL_law 834 = .ok (.iinc 4 8, 3) := by decide +kernel
theorem dL_law_837 : decode cL_law 837 = .ok (.goto (-814), 3) := by decide +kernel
theorem dL_law_840 : decode cL_law 840 = .ok (.iconst 1, 1) := by decide +kernel
theorem dL_law_841 : decode cL_law 841 = .ok (.ireturn, 1) := by decide +kernel
