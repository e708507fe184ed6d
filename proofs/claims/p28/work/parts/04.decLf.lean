theorem dL_act_654 : decode cL_act 654 = .ok (.iload 9, 2) := by decide +kernel
theorem dL_act_656 : decode cL_act 656 = .ok (.invokevirtual 139, 3) := by decide +kernel
theorem dL_act_659 : decode cL_act 659 = .ok (.iload 13, 2) := by decide +kernel
theorem dL_act_661 : decode cL_act 661 = .ok (.if_icmp .ne 7, 3) := by decide +kernel
theorem dL_act_664 : decode cL_act 664 = .ok (.iconst 1, 1) := by decide +kernel
theorem dL_act_665 : decode cL_act 665 = .ok (.goto 4, 3) := by decide +kernel
theorem dL_act_668 : decode cL_act 668 = .ok (.iconst 0, 1) := by decide +kernel
theorem dL_act_669 : decode cL_act 669 = .ok (.ireturn, 1) := by decide +kernel
theorem dL_act_670 : decode cL_act 670 = .ok (.iconst 3, 1) := by decide +kernel
theorem dL_act_671 : decode cL_act 671 = .ok (.istore 13, 2) := by decide +kernel
theorem dL_act_673 : decode cL_act 673 = .ok (.iload 13, 2) := by decide +kernel
theorem dL_act_675 : decode cL_act 675 = .ok (.iconst 1, 1) := by decide +kernel
theorem dL_act_676 : decode cL_act 676 = .ok (.if_icmp .le 32, 3) := by decide +kernel
theorem dL_act_679 : decode cL_act 679 = .ok (.iload 8, 2) := by decide +kernel
theorem dL_act_681 : decode cL_act 681 = .ok (.iload 9, 2) := by decide +kernel
theorem dL_act_683 : decode cL_act 683 = .ok (.iload 13, 2) := by decide +kernel
theorem dL_act_685 : decode cL_act 685 = .ok (.aload 7, 2) := by decide +kernel
theorem dL_act_687 : decode cL_act 687 = .ok (.bipush 30, 2) := by decide +kernel
theorem dL_act_689 : decode cL_act 689 = .ok (.iaload, 1) := by decide +kernel
theorem dL_act_690 : decode cL_act 690 = .ok (.aload 4, 2) := by decide +kernel
theorem dL_act_692 : decode cL_act 692 = .ok (.aload 5, 2) := by decide +kernel
theorem dL_act_694 : decode cL_act 694 = .ok (.aload 12, 2) := by decide +kernel
theorem dL_act_696 : decode cL_act 696 = .ok (.invokestatic 95, 3) := by decide +kernel
theorem dL_act_699 : decode cL_act 699 = .ok (.ifCond .eq 9, 3) := by decide +kernel
theorem dL_act_702 : decode cL_act 702 = .ok (.iinc 13 (-1), 3) := by decide +kernel
theorem dL_act_705 : decode cL_act 705 = .ok (.goto (-32), 3) := by decide +kernel
theorem dL_act_708 : decode cL_act 708 = .ok (.iload 8, 2) := by decide +kernel
theorem dL_act_710 : decode cL_act 710 = .ok (.iload 9, 2) := by decide +kernel
theorem dL_act_712 : decode cL_act 712 = .ok (.iload 13, 2) := by decide +kernel
theorem dL_act_714 : decode cL_act 714 = .ok (.aload 7, 2) := by decide +kernel
theorem dL_act_716 : decode cL_act 716 = .ok (.bipush 30, 2) := by decide +kernel
theorem dL_act_718 : decode cL_act 718 = .ok (.iaload, 1) := by decide +kernel
theorem dL_act_719 : decode cL_act 719 = .ok (.aload 4, 2) := by decide +kernel
theorem dL_act_721 : decode cL_act 721 = .ok (.aload 5, 2) := by decide +kernel
theorem dL_act_723 : decode cL_act 723 = .ok (.aload 12, 2) := by decide +kernel
theorem dL_act_725 : decode cL_act 725 = .ok (.invokestatic 95, 3) := by decide +kernel
theorem dL_act_728 : decode cL_act 728 = .ok (.ifCond .eq 22, 3) := by decide +kernel
theorem dL_act_731 : decode cL_act 731 = .ok (.aload_n 0, 1) := by decide +kernel
theorem dL_act_732 : decode cL_act 732 = .ok (.iload 8, 2) := by decide +kernel
theorem dL_act_734 : decode cL_act 734 = .ok (.iload 9, 2) := by decide +kernel
theorem dL_act_736 : decode cL_act 736 = .ok (.iload 13, 2) := by decide +kernel
theorem dL_act_738 : decode cL_act 738 = .ok (.invokevirtual 99, 3) := by decide +kernel
theorem dL_act_741 : decode cL_act 741 = .ok (.ifCond .eq 7, 3) := by decide +kernel
theorem dL_act_744 : decode cL_act 744 = .ok (.iconst 1, 1) := by decide +kernel
theorem dL_act_745 : decode cL_act 745 = .ok (.goto 4, 3) := by decide +kernel
theorem dL_act_748 : decode cL_act 748 = .ok (.iconst 0, 1) := by decide +kernel
theorem dL_act_749 : decode cL_act 749 = .ok (.ireturn, 1) := by decide +kernel
theorem dL_act_750 : decode cL_act 750 = .ok (.iload 8, 2) := by decide +kernel
theorem dL_act_752 : decode cL_act 752 = .ok (.iload 9, 2) := by decide +kernel
theorem dL_act_754 : decode cL_act 754 = .ok (.iload 13, 2) := by decide +kernel
theorem dL_act_756 : decode cL_act 756 = .ok (.aload 4, 2) := by decide +kernel
theorem dL_act_758 : decode cL_act 758 = .ok (.aload 7, 2) := by decide +kernel
theorem dL_act_760 : decode cL_act 760 = .ok (.invokestatic 104, 3) := by decide +kernel
theorem dL_act_763 : decode cL_act 763 = .ok (.istore 14, 2) := by decide +kernel
theorem dL_act_765 : decode cL_act 765 = .ok (.aload 5, 2) := by decide +kernel
theorem dL_act_767 : decode cL_act 767 = .ok (.iload 9, 2) := by decide +kernel
theorem dL_act_769 : decode cL_act 769 = .ok (.dup2, 1) := by decide +kernel
theorem dL_act_770 : decode cL_act 770 = .ok (.laload, 1) := by decide +kernel
theorem dL_act_771 : decode cL_act 771 = .ok (.ldc2_w 142, 3) := by decide +kernel
theorem dL_act_774 : decode cL_act 774 = .ok (.bipush 16, 2) := by decide +kernel
theorem dL_act_776 : decode cL_act 776 = .ok (.aload 7, 2) := by decide +kernel
theorem dL_act_778 : decode cL_act 778 = .ok (.bipush 30, 2) := by decide +kernel
theorem dL_act_780 : decode cL_act 780 = .ok (.iaload, 1) := by decide +kernel
theorem dL_act_781 : decode cL_act 781 = .ok (.imul, 1) := by decide +kernel
theorem dL_act_782 : decode cL_act 782 = .ok (.i2l, 1) := by decide +kernel
theorem dL_act_783 : decode cL_act 783 = .ok (.ladd, 1) := by decide +kernel
theorem dL_act_784 : decode cL_act 784 = .ok (.iload 8, 2) := by decide +kernel
theorem dL_act_786 : decode cL_act 786 = .ok (.i2l, 1) := by decide +kernel
theorem dL_act_787 : decode cL_act 787 = .ok (.ladd, 1) := by decide +kernel
theorem dL_act_788 : decode cL_act 788 = .ok (.bipush 16, 2) := by decide +kernel
theorem dL_act_790 : decode cL_act 790 = .ok (.iload 13, 2) := by decide +kernel
theorem dL_act_792 : decode cL_act 792 = .ok (.imul, 1) := by decide +kernel
theorem dL_act_793 : decode cL_act 793 = .ok (.bipush 16, 2) := by decide +kernel
theorem dL_act_795 : decode cL_act 795 = .ok (.isub, 1) := by decide +kernel
theorem dL_act_796 : decode cL_act 796 = .ok (.lshl, 1) := by decide +kernel
theorem dL_act_797 : decode cL_act 797 = .ok (.lor, 1) := by decide +kernel
theorem dL_act_798 : decode cL_act 798 = .ok (.lastore, 1) := by decide +kernel
theorem dL_act_799 : decode cL_act 799 = .ok (.aload 6, 2) := by decide +kernel
theorem dL_act_801 : decode cL_act 801 = .ok (.iload 9, 2) := by decide +kernel
theorem dL_act_803 : decode cL_act 803 = .ok (.dup2, 1) := by decide +kernel
theorem dL_act_804 : decode cL_act 804 = .ok (.iaload, 1) := by decide +kernel
theorem dL_act_805 : decode cL_act 805 = .ok (.iload 14, 2) := by decide +kernel
theorem dL_act_807 : decode cL_act 807 = .ok (.bipush 9, 2) := by decide +kernel
theorem dL_act_809 : decode cL_act 809 = .ok (.iload 13, 2) := by decide +kernel
theorem dL_act_811 : decode cL_act 811 = .ok (.imul, 1) := by decide +kernel
theorem dL_act_812 : decode cL_act 812 = .ok (.bipush 9, 2) := by decide +kernel
theorem dL_act_814 : decode cL_act 814 = .ok (.isub, 1) := by decide +kernel
theorem dL_act_815 : decode cL_act 815 = .ok (.ishl, 1) := by decide +kernel
theorem dL_act_816 : decode cL_act 816 = .ok (.ior, 1) := by decide +kernel
theorem dL_act_817 : decode cL_act 817 = .ok (.iastore, 1) := by decide +kernel
theorem dL_act_818 : decode cL_act 818 = .ok (.aload 7, 2) := by decide +kernel
theorem dL_act_820 : decode cL_act 820 = .ok (.bipush 10, 2) := by decide +kernel
theorem dL_act_822 : decode cL_act 822 = .ok (.iload 8, 2) := by decide +kernel
theorem dL_act_824 : decode cL_act 824 = .ok (.iadd, 1) := by decide +kernel
theorem dL_act_825 : decode cL_act 825 = .ok (.dup2, 1) := by decide +kernel
theorem dL_act_826 : decode cL_act 826 = .ok (.iaload, 1) := by decide +kernel
theorem dL_act_827 : decode cL_act 827 = .ok (.iload 14, 2) := by decide +kernel
theorem dL_act_829 : decode cL_act 829 = .ok (.iadd, 1) := by decide +kernel
theorem dL_act_830 : decode cL_act 830 = .ok (.iastore, 1) := by decide +kernel
theorem dL_act_831 : decode cL_act 831 = .ok (.aload 7, 2) := by decide +kernel
theorem dL_act_833 : decode cL_act 833 = .ok (.bipush 20, 2) := by decide +kernel
theorem dL_act_835 : decode cL_act 835 = .ok (.iload 8, 2) := by decide +kernel
theorem dL_act_837 : decode cL_act 837 = .ok (.iadd, 1) := by decide +kernel
theorem dL_act_838 : decode cL_act 838 = .ok (.dup2, 1) := by decide +kernel
theorem dL_act_839 : decode cL_act 839 = .ok (.iaload, 1) := by decide +kernel
theorem dL_act_840 : decode cL_act 840 = .ok (.iconst 1, 1) := by decide +kernel
theorem dL_act_841 : decode cL_act 841 = .ok (.iadd, 1) := by decide +kernel
theorem dL_act_842 : decode cL_act 842 = .ok (.iastore, 1) := by decide +kernel
theorem dL_act_843 : decode cL_act 843 = .ok (.aload_n 0, 1) := by decide +kernel
theorem dL_act_844 : decode cL_act 844 = .ok (.iload 8, 2) := by decide +kernel
theorem dL_act_846 : decode cL_act 846 = .ok (.iload 9, 2) := by decide +kernel
theorem dL_act_848 : decode cL_act 848 = .ok (.iload 13, 2) := by decide +kernel
theorem dL_act_850 : decode cL_act 850 = .ok (.invokevirtual 144, 3) := by decide +kernel
theorem dL_act_853 : decode cL_act 853 = .ok (.iload 14, 2) := by decide +kernel
theorem dL_act_855 : decode cL_act 855 = .ok (.if_icmp .ne 7, 3) := by decide +kernel
theorem dL_act_858 : decode cL_act 858 = .ok (.iconst 1, 1) := by decide +kernel
theorem dL_act_859 : decode cL_act 859 = .ok (.goto 4, 3) := by decide +kernel
theorem dL_act_862 : decode cL_act 862 = .ok (.iconst 0, 1) := by decide +kernel
theorem dL_act_863 : decode cL_act 863 = .ok (.ireturn, 1) := by decide +kernel
theorem dL_law_0 : decode cL_law 0 = .ok (.new 57, 3) := by decide +kernel
theorem dL_law_3 : decode cL_law 3 = .ok (.dup, 1) := by decide +kernel
theorem dL_law_4 : decode cL_law 4 = .ok (.invokespecial 147, 3) := by decide +kernel
theorem dL_law_7 : decode cL_law 7 = .ok (.astore_n 1, 1) := by decide +kernel
theorem dL_law_8 : decode cL_law 8 = .ok (.bipush 40, 2) := by decide +kernel
theorem dL_law_10 : decode cL_law 10 = .ok (.newarray .int, 2) := by decide +kernel
theorem dL_law_12 : decode cL_law 12 = .ok (.astore_n 2, 1) := by decide +kernel
theorem dL_law_13 : decode cL_law 13 = .ok (.bipush 40, 2) := by decide +kernel
theorem dL_law_15 : decode cL_law 15 = .ok (.newarray .long, 2) := by decide +kernel
theorem dL_law_17 : decode cL_law 17 = .ok (.astore_n 3, 1) := by decide +kernel
theorem dL_law_18 : decode cL_law 18 = .ok (.bipush 40, 2) := by decide +kernel
theorem dL_law_20 : decode cL_law 20 = .ok (.newarray .int, 2) := by decide +kernel
theorem dL_law_22 : decode cL_law 22 = .ok (.astore 4, 2) := by decide +kernel
theorem dL_law_24 : decode cL_law 24 = .ok (.bipush 31, 2) := by decide +kernel
theorem dL_law_26 : decode cL_law 26 = .ok (.newarray .int, 2) := by decide +kernel
theorem dL_law_28 : decode cL_law 28 = .ok (.astore 5, 2) := by decide +kernel
theorem dL_law_30 : decode cL_law 30 = .ok (.aload_n 2, 1) := by decide +kernel
theorem dL_law_31 : decode cL_law 31 = .ok (.iconst 0, 1) := by decide +kernel
theorem dL_law_32 : decode cL_law 32 = .ok (.iconst 3, 1) := by decide +kernel
theorem dL_law_33 : decode cL_law 33 = .ok (.iastore, 1) := by decide +kernel
theorem dL_law_34 : decode cL_law 34 = .ok (.iconst 0, 1) := by decide +kernel
theorem dL_law_35 : decode cL_law 35 = .ok (.istore 6, 2) := by decide +kernel
theorem dL_law_37 : decode cL_law 37 = .ok (.iload 6, 2) := by decide +kernel
theorem dL_law_39 : decode cL_law 39 = .ok (.bipush 10, 2) := by decide +kernel
theorem dL_law_41 : decode cL_law 41 = .ok (.if_icmp .ge 15, 3) := by decide +kernel
theorem dL_law_44 : decode cL_law 44 = .ok (.aload 5, 2) := by decide +kernel
theorem dL_law_46 : decode cL_law 46 = .ok (.iload 6, 2) := by decide +kernel
theorem dL_law_48 : decode cL_law 48 = .ok (.iconst 1, 1) := by decide +kernel
theorem dL_law_49 : decode cL_law 49 = .ok (.iastore, 1) := by decide +kernel
theorem dL_law_50 : decode cL_law 50 = .ok (.iinc 6 1, 3) := by decide +kernel
theorem dL_law_53 : decode cL_law 53 = .ok (.goto (-16), 3) := by decide +kernel
theorem dL_law_56 : decode cL_law 56 = .ok (.aload_n 1, 1) := by decide +kernel
theorem dL_law_57 : decode cL_law 57 = .ok (.iconst 3, 1) := by decide +kernel
theorem dL_law_58 : decode cL_law 58 = .ok (.iconst 5, 1) := by decide +kernel
theorem dL_law_59 : decode cL_law 59 = .ok (.aload_n 2, 1) := by decide +kernel
theorem dL_law_60 : decode cL_law 60 = .ok (.aload_n 3, 1) := by decide +kernel
theorem dL_law_61 : decode cL_law 61 = .ok (.aload 4, 2) := by decide +kernel
theorem dL_law_63 : decode cL_law 63 = .ok (.aload 5, 2) := by decide +kernel
theorem dL_law_65 : decode cL_law 65 = .ok (.invokestatic 148, 3) := by decide +kernel
theorem dL_law_68 : decode cL_law 68 = .ok (.ifCond .eq 14, 3) := by decide +kernel
theorem dL_law_71 : decode cL_law 71 = .ok (.aload_n 1, 1) := by decide +kernel
theorem dL_law_72 : decode cL_law 72 = .ok (.bipush 9, 2) := by decide +kernel
theorem dL_law_74 : decode cL_law 74 = .ok (.iconst 0, 1) := by decide +kernel
theorem dL_law_75 : decode cL_law 75 = .ok (.invokevirtual 129, 3) := by decide +kernel
theorem dL_law_78 : decode cL_law 78 = .ok (.iconst 1, 1) := by decide +kernel
theorem dL_law_79 : decode cL_law 79 = .ok (.if_icmp .eq 5, 3) := by decide +kernel
theorem dL_law_82 : decode cL_law 82 = .ok (.iconst 0, 1) := by decide +kernel
theorem dL_law_83 : decode cL_law 83 = .ok (.ireturn, 1) := by decide +kernel
theorem dL_law_84 : decode cL_law 84 = .ok (.aload 5, 2) := by decide +kernel
theorem dL_law_86 : decode cL_law 86 = .ok (.bipush 9, 2) := by decide +kernel
theorem dL_law_88 : decode cL_law 88 = .ok (.iconst 0, 1) := by decide +kernel
theorem dL_law_89 : decode cL_law 89 = .ok (.iastore, 1) := by decide +kernel
theorem dL_law_90 : decode cL_law 90 = .ok (.iconst 0, 1) := by decide +kernel
theorem dL_law_91 : decode cL_law 91 = .ok (.istore 6, 2) := by decide +kernel
theorem dL_law_93 : decode cL_law 93 = .ok (.iload 6, 2) := by decide +kernel
theorem dL_law_95 : decode cL_law 95 = .ok (.bipush 24, 2) := by decide +kernel
theorem dL_law_97 : decode cL_law 97 = .ok (.if_icmp .ge 116, 3) := by decide +kernel
theorem dL_law_100 : decode cL_law 100 = .ok (.aload_n 0, 1) := by decide +kernel
theorem dL_law_101 : decode cL_law 101 = .ok (.iconst 2, 1) := by decide +kernel
theorem dL_law_102 : decode cL_law 102 = .ok (.iload 6, 2) := by decide +kernel
theorem dL_law_104 : decode cL_law 104 = .ok (.imul, 1) := by decide +kernel
theorem dL_law_105 : decode cL_law 105 = .ok (.invokestatic 152, 3) := by decide +kernel
theorem dL_law_108 : decode cL_law 108 = .ok (.ldc 155, 2) := by decide +kernel
theorem dL_law_110 : decode cL_law 110 = .ok (.iand, 1) := by decide +kernel
theorem dL_law_111 : decode cL_law 111 = .ok (.istore 7, 2) := by decide +kernel
theorem dL_law_113 : decode cL_law 113 = .ok (.aload_n 0, 1) := by decide +kernel
theorem dL_law_114 : decode cL_law 114 = .ok (.iconst 2, 1) := by decide +kernel
theorem dL_law_115 : decode cL_law 115 = .ok (.iload 6, 2) := by decide +kernel
theorem dL_law_117 : decode cL_law 117 = .ok (.imul, 1) := by decide +kernel
theorem dL_law_118 : decode cL_law 118 = .ok (.iconst 1, 1) := by decide +kernel
theorem dL_law_119 : decode cL_law 119 = .ok (.iadd, 1) := by decide +kernel
theorem dL_law_120 : decode cL_law 120 = .ok (.invokestatic 152, 3) := by decide +kernel
theorem dL_law_123 : decode cL_law 123 = .ok (.ldc 155, 2) := by decide +kernel
theorem dL_law_125 : decode cL_law 125 = .ok (.iand, 1) := by decide +kernel
theorem dL_law_126 : decode cL_law 126 = .ok (.istore 8, 2) := by decide +kernel
theorem dL_law_128 : decode cL_law 128 = .ok (.aload_n 1, 1) := by decide +kernel
theorem dL_law_129 : decode cL_law 129 = .ok (.iload 7, 2) := by decide +kernel
theorem dL_law_131 : decode cL_law 131 = .ok (.bipush 11, 2) := by decide +kernel
theorem dL_law_133 : decode cL_law 133 = .ok (.ishr, 1) := by decide +kernel
theorem dL_law_134 : decode cL_law 134 = .ok (.bipush 18, 2) := by decide +kernel
theorem dL_law_136 : decode cL_law 136 = .ok (.invokestatic 74, 3) := by decide +kernel
theorem dL_law_139 : decode cL_law 139 = .ok (.iload 7, 2) := by decide +kernel
theorem dL_law_141 : decode cL_law 141 = .ok (.iload 8, 2) := by decide +kernel
theorem dL_law_143 : decode cL_law 143 = .ok (.aload_n 2, 1) := by decide +kernel
theorem dL_law_144 : decode cL_law 144 = .ok (.aload_n 3, 1) := by decide +kernel
theorem dL_law_145 : decode cL_law 145 = .ok (.aload 4, 2) := by decide +kernel
theorem dL_law_147 : decode cL_law 147 = .ok (.aload 5, 2) := by decide +kernel
theorem dL_law_149 : decode cL_law 149 = .ok (.invokestatic 156, 3) := by decide +kernel
theorem dL_law_152 : decode cL_law 152 = .ok (.ifCond .eq 24, 3) := by decide +kernel
theorem dL_law_155 : decode cL_law 155 = .ok (.aload_n 1, 1) := by decide +kernel
theorem dL_law_156 : decode cL_law 156 = .ok (.iload 7, 2) := by decide +kernel
theorem dL_law_158 : decode cL_law 158 = .ok (.iconst 3, 1) := by decide +kernel
theorem dL_law_159 : decode cL_law 159 = .ok (.ishr, 1) := by decide +kernel
theorem dL_law_160 : decode cL_law 160 = .ok (.iload 8, 2) := by decide +kernel
theorem dL_law_162 : decode cL_law 162 = .ok (.iconst 3, 1) := by decide +kernel
theorem dL_law_163 : decode cL_law 163 = .ok (.ishr, 1) := by decide +kernel
theorem dL_law_164 : decode cL_law 164 = .ok (.aload_n 2, 1) := by decide +kernel
theorem dL_law_165 : decode cL_law 165 = .ok (.aload_n 3, 1) := by decide +kernel
theorem dL_law_166 : decode cL_law 166 = .ok (.aload 4, 2) := by decide +kernel
theorem dL_law_168 : decode cL_law 168 = .ok (.aload 5, 2) := by decide +kernel
theorem dL_law_170 : decode cL_law 170 = .ok (.invokestatic 148, 3) := by decide +kernel
theorem dL_law_173 : decode cL_law 173 = .ok (.ifCond .ne 5, 3) := by decide +kernel
theorem dL_law_176 : decode cL_law 176 = .ok (.iconst 0, 1) := by decide +kernel
theorem dL_law_177 : decode cL_law 177 = .ok (.ireturn, 1) := by decide +kernel
theorem dL_law_178 : decode cL_law 178 = .ok (.iload 6, 2) := by decide +kernel
theorem dL_law_180 : decode cL_law 180 = .ok (.iconst 3, 1) := by decide +kernel
theorem dL_law_181 : decode cL_law 181 = .ok (.irem, 1) := by decide +kernel
theorem dL_law_182 : decode cL_law 182 = .ok (.iconst 2, 1) := by decide +kernel
theorem dL_law_183 : decode cL_law 183 = .ok (.if_icmp .ne 24, 3) := by decide +kernel
theorem dL_law_186 : decode cL_law 186 = .ok (.aload_n 1, 1) := by decide +kernel
theorem dL_law_187 : decode cL_law 187 = .ok (.iload 8, 2) := by decide +kernel
theorem dL_law_189 : decode cL_law 189 = .ok (.iconst 2, 1) := by decide +kernel
theorem dL_law_190 : decode cL_law 190 = .ok (.ishr, 1) := by decide +kernel
theorem dL_law_191 : decode cL_law 191 = .ok (.iload 7, 2) := by decide +kernel
theorem dL_law_193 : decode cL_law 193 = .ok (.iconst 2, 1) := by decide +kernel
theorem dL_law_194 : decode cL_law 194 = .ok (.ishr, 1) := by decide +kernel
theorem dL_law_195 : decode cL_law 195 = .ok (.aload_n 2, 1) := by decide +kernel
theorem dL_law_196 : decode cL_law 196 = .ok (.aload_n 3, 1) := by decide +kernel
theorem dL_law_197 : decode cL_law 197 = .ok (.aload 5, 2) := by decide +kernel
theorem dL_law_199 : decode cL_law 199 = .ok (.invokestatic 160, 3) := by decide +kernel
theorem dL_law_202 : decode cL_law 202 = .ok (.ifCond .ne 5, 3) := by decide +kernel
theorem dL_law_205 : decode cL_law 205 = .ok (.iconst 0, 1) := by decide +kernel
theorem dL_law_206 : decode cL_law 206 = .ok (.ireturn, 1) := by decide +kernel
theorem dL_law_207 : decode cL_law 207 = .ok (.iinc 6 1, 3) := by decide +kernel
theorem dL_law_210 : decode cL_law 210 = .ok (.goto (-117), 3) := by decide +kernel
theorem dL_law_213 : decode cL_law 213 = .ok (.aload_n 1, 1) := by decide +kernel
theorem dL_law_214 : decode cL_law 214 = .ok (.bipush 8, 2) := by decide +kernel
theorem dL_law_216 : decode cL_law 216 = .ok (.invokevirtual 81, 3) := by decide +kernel
theorem dL_law_219 : decode cL_law 219 = .ok (.ifCond .le 7, 3) := by decide +kernel
theorem dL_law_222 : decode cL_law 222 = .ok (.iconst 1, 1) := by decide +kernel
theorem dL_law_223 : decode cL_law 223 = .ok (.goto 4, 3) := by decide +kernel
theorem dL_law_226 : decode cL_law 226 = .ok (.iconst 0, 1) := by decide +kernel
theorem dL_law_227 : decode cL_law 227 = .ok (.ireturn, 1) := by decide +kernel
