theorem dX6_isWithin_0 : decode cX6_isWithin 0 = .ok (.iload_n 0, 1) := by decide +kernel
theorem dX6_isWithin_1 : decode cX6_isWithin 1 = .ok (.iload_n 1, 1) := by decide +kernel
theorem dX6_isWithin_2 : decode cX6_isWithin 2 = .ok (.if_icmp .lt 12, 3) := by decide +kernel
theorem dX6_isWithin_5 : decode cX6_isWithin 5 = .ok (.iload_n 0, 1) := by decide +kernel
theorem dX6_isWithin_6 : decode cX6_isWithin 6 = .ok (.iload_n 2, 1) := by decide +kernel
theorem dX6_isWithin_7 : decode cX6_isWithin 7 = .ok (.if_icmp .gt 7, 3) := by decide +kernel
theorem dX6_isWithin_10 : decode cX6_isWithin 10 = .ok (.iconst 1, 1) := by decide +kernel
theorem dX6_isWithin_11 : decode cX6_isWithin 11 = .ok (.goto 4, 3) := by decide +kernel
theorem dX6_isWithin_14 : decode cX6_isWithin 14 = .ok (.iconst 0, 1) := by decide +kernel
theorem dX6_isWithin_15 : decode cX6_isWithin 15 = .ok (.ireturn, 1) := by decide +kernel
theorem dX6_isEvenWithin_0 : decode cX6_isEvenWithin 0 = .ok (.iload_n 0, 1) := by decide +kernel
theorem dX6_isEvenWithin_1 : decode cX6_isEvenWithin 1 = .ok (.iload_n 1, 1) := by decide +kernel
theorem dX6_isEvenWithin_2 : decode cX6_isEvenWithin 2 = .ok (.iload_n 2, 1) := by decide +kernel
theorem dX6_isEvenWithin_3 : decode cX6_isEvenWithin 3 = .ok (.invokestatic 54, 3) := by decide +kernel
theorem dX6_isEvenWithin_6 : decode cX6_isEvenWithin 6 = .ok (.ifCond .eq 13, 3) := by decide +kernel
theorem dX6_isEvenWithin_9 : decode cX6_isEvenWithin 9 = .ok (.iload_n 0, 1) := by decide +kernel
theorem dX6_isEvenWithin_10 : decode cX6_isEvenWithin 10 = .ok (.iconst 2, 1) := by decide +kernel
theorem dX6_isEvenWithin_11 : decode cX6_isEvenWithin 11 = .ok (.irem, 1) := by decide +kernel
theorem dX6_isEvenWithin_12 : decode cX6_isEvenWithin 12 = .ok (.ifCond .ne 7, 3) := by decide +kernel
theorem dX6_isEvenWithin_15 : decode cX6_isEvenWithin 15 = .ok (.iconst 1, 1) := by decide +kernel
theorem dX6_isEvenWithin_16 : decode cX6_isEvenWithin 16 = .ok (.goto 4, 3) := by decide +kernel
theorem dX6_isEvenWithin_19 : decode cX6_isEvenWithin 19 = .ok (.iconst 0, 1) := by decide +kernel
theorem dX6_isEvenWithin_20 : decode cX6_isEvenWithin 20 = .ok (.ireturn, 1) := by decide +kernel
theorem dX6_hopOf_0 : decode cX6_hopOf 0 = .ok (.iload_n 0, 1) := by decide +kernel
theorem dX6_hopOf_1 : decode cX6_hopOf 1 = .ok (.bipush 31, 2) := by decide +kernel
theorem dX6_hopOf_3 : decode cX6_hopOf 3 = .ok (.iand, 1) := by decide +kernel
theorem dX6_hopOf_4 : decode cX6_hopOf 4 = .ok (.iload_n 1, 1) := by decide +kernel
theorem dX6_hopOf_5 : decode cX6_hopOf 5 = .ok (.bipush 31, 2) := by decide +kernel
theorem dX6_hopOf_7 : decode cX6_hopOf 7 = .ok (.iand, 1) := by decide +kernel
theorem dX6_hopOf_8 : decode cX6_hopOf 8 = .ok (.iadd, 1) := by decide +kernel
theorem dX6_hopOf_9 : decode cX6_hopOf 9 = .ok (.bipush 32, 2) := by decide +kernel
theorem dX6_hopOf_11 : decode cX6_hopOf 11 = .ok (.irem, 1) := by decide +kernel
theorem dX6_hopOf_12 : decode cX6_hopOf 12 = .ok (.istore_n 2, 1) := by decide +kernel
theorem dX6_hopOf_13 : decode cX6_hopOf 13 = .ok (.iload_n 2, 1) := by decide +kernel
theorem dX6_hopOf_14 : decode cX6_hopOf 14 = .ok (.iload_n 0, 1) := by decide +kernel
theorem dX6_hopOf_15 : decode cX6_hopOf 15 = .ok (.iconst 5, 1) := by decide +kernel
theorem dX6_hopOf_16 : decode cX6_hopOf 16 = .ok (.ishr, 1) := by decide +kernel
theorem dX6_hopOf_17 : decode cX6_hopOf 17 = .ok (.bipush 31, 2) := by decide +kernel
theorem dX6_hopOf_19 : decode cX6_hopOf 19 = .ok (.iand, 1) := by decide +kernel
theorem dX6_hopOf_20 : decode cX6_hopOf 20 = .ok (.ixor, 1) := by decide +kernel
theorem dX6_hopOf_21 : decode cX6_hopOf 21 = .ok (.iload_n 1, 1) := by decide +kernel
theorem dX6_hopOf_22 : decode cX6_hopOf 22 = .ok (.bipush 7, 2) := by decide +kernel
theorem dX6_hopOf_24 : decode cX6_hopOf 24 = .ok (.ishr, 1) := by decide +kernel
theorem dX6_hopOf_25 : decode cX6_hopOf 25 = .ok (.bipush 31, 2) := by decide +kernel
theorem dX6_hopOf_27 : decode cX6_hopOf 27 = .ok (.iand, 1) := by decide +kernel
theorem dX6_hopOf_28 : decode cX6_hopOf 28 = .ok (.ixor, 1) := by decide +kernel
theorem dX6_hopOf_29 : decode cX6_hopOf 29 = .ok (.istore_n 2, 1) := by decide +kernel
theorem dX6_hopOf_30 : decode cX6_hopOf 30 = .ok (.iload_n 0, 1) := by decide +kernel
theorem dX6_hopOf_31 : decode cX6_hopOf 31 = .ok (.bipush 10, 2) := by decide +kernel
theorem dX6_hopOf_33 : decode cX6_hopOf 33 = .ok (.ishr, 1) := by decide +kernel
theorem dX6_hopOf_34 : decode cX6_hopOf 34 = .ok (.sipush 511, 3) := by decide +kernel
theorem dX6_hopOf_37 : decode cX6_hopOf 37 = .ok (.iand, 1) := by decide +kernel
theorem dX6_hopOf_38 : decode cX6_hopOf 38 = .ok (.iload_n 1, 1) := by decide +kernel
theorem dX6_hopOf_39 : decode cX6_hopOf 39 = .ok (.iconst 5, 1) := by decide +kernel
theorem dX6_hopOf_40 : decode cX6_hopOf 40 = .ok (.ishr, 1) := by decide +kernel
theorem dX6_hopOf_41 : decode cX6_hopOf 41 = .ok (.sipush 511, 3) := by decide +kernel
theorem dX6_hopOf_44 : decode cX6_hopOf 44 = .ok (.iand, 1) := by decide +kernel
theorem dX6_hopOf_45 : decode cX6_hopOf 45 = .ok (.ixor, 1) := by decide +kernel
theorem dX6_hopOf_46 : decode cX6_hopOf 46 = .ok (.istore_n 3, 1) := by decide +kernel
theorem dX6_hopOf_47 : decode cX6_hopOf 47 = .ok (.iconst 0, 1) := by decide +kernel
theorem dX6_hopOf_48 : decode cX6_hopOf 48 = .ok (.istore 4, 2) := by decide +kernel
theorem dX6_hopOf_50 : decode cX6_hopOf 50 = .ok (.iload 4, 2) := by decide +kernel
theorem dX6_hopOf_52 : decode cX6_hopOf 52 = .ok (.getstatic 408, 3) := by decide +kernel
theorem dX6_hopOf_55 : decode cX6_hopOf 55 = .ok (.arraylength, 1) := by decide +kernel
theorem dX6_hopOf_56 : decode cX6_hopOf 56 = .ok (.if_icmp .ge 83, 3) := by decide +kernel
theorem dX6_hopOf_59 : decode cX6_hopOf 59 = .ok (.iload 4, 2) := by decide +kernel
theorem dX6_hopOf_61 : decode cX6_hopOf 61 = .ok (.getstatic 411, 3) := by decide +kernel
theorem dX6_hopOf_64 : decode cX6_hopOf 64 = .ok (.arraylength, 1) := by decide +kernel
theorem dX6_hopOf_65 : decode cX6_hopOf 65 = .ok (.if_icmp .ge 74, 3) := by decide +kernel
theorem dX6_hopOf_68 : decode cX6_hopOf 68 = .ok (.getstatic 408, 3) := by decide +kernel
theorem dX6_hopOf_71 : decode cX6_hopOf 71 = .ok (.iload 4, 2) := by decide +kernel
theorem dX6_hopOf_73 : decode cX6_hopOf 73 = .ok (.iaload, 1) := by decide +kernel
theorem dX6_hopOf_74 : decode cX6_hopOf 74 = .ok (.istore 5, 2) := by decide +kernel
theorem dX6_hopOf_76 : decode cX6_hopOf 76 = .ok (.getstatic 411, 3) := by decide +kernel
theorem dX6_hopOf_79 : decode cX6_hopOf 79 = .ok (.iload 4, 2) := by decide +kernel
theorem dX6_hopOf_81 : decode cX6_hopOf 81 = .ok (.iaload, 1) := by decide +kernel
theorem dX6_hopOf_82 : decode cX6_hopOf 82 = .ok (.istore 6, 2) := by decide +kernel
theorem dX6_hopOf_84 : decode cX6_hopOf 84 = .ok (.iload_n 2, 1) := by decide +kernel
theorem dX6_hopOf_85 : decode cX6_hopOf 85 = .ok (.iload 5, 2) := by decide +kernel
theorem dX6_hopOf_87 : decode cX6_hopOf 87 = .ok (.ishr, 1) := by decide +kernel
theorem dX6_hopOf_88 : decode cX6_hopOf 88 = .ok (.iload_n 2, 1) := by decide +kernel
theorem dX6_hopOf_89 : decode cX6_hopOf 89 = .ok (.iload 6, 2) := by decide +kernel
theorem dX6_hopOf_91 : decode cX6_hopOf 91 = .ok (.ishr, 1) := by decide +kernel
theorem dX6_hopOf_92 : decode cX6_hopOf 92 = .ok (.ixor, 1) := by decide +kernel
theorem dX6_hopOf_93 : decode cX6_hopOf 93 = .ok (.iconst 1, 1) := by decide +kernel
theorem dX6_hopOf_94 : decode cX6_hopOf 94 = .ok (.iand, 1) := by decide +kernel
theorem dX6_hopOf_95 : decode cX6_hopOf 95 = .ok (.iconst 1, 1) := by decide +kernel
theorem dX6_hopOf_96 : decode cX6_hopOf 96 = .ok (.if_icmp .ne 7, 3) := by decide +kernel
theorem dX6_hopOf_99 : decode cX6_hopOf 99 = .ok (.iconst 1, 1) := by decide +kernel
theorem dX6_hopOf_100 : decode cX6_hopOf 100 = .ok (.goto 4, 3) := by decide +kernel
theorem dX6_hopOf_103 : decode cX6_hopOf 103 = .ok (.iconst 0, 1) := by decide +kernel
theorem dX6_hopOf_104 : decode cX6_hopOf 104 = .ok (.istore 7, 2) := by decide +kernel
theorem dX6_hopOf_106 : decode cX6_hopOf 106 = .ok (.iload_n 3, 1) := by decide +kernel
theorem dX6_hopOf_107 : decode cX6_hopOf 107 = .ok (.iload 4, 2) := by decide +kernel
theorem dX6_hopOf_109 : decode cX6_hopOf 109 = .ok (.ishr, 1) := by decide +kernel
theorem dX6_hopOf_110 : decode cX6_hopOf 110 = .ok (.iconst 1, 1) := by decide +kernel
theorem dX6_hopOf_111 : decode cX6_hopOf 111 = .ok (.iand, 1) := by decide +kernel
theorem dX6_hopOf_112 : decode cX6_hopOf 112 = .ok (.iconst 1, 1) := by decide +kernel
theorem dX6_hopOf_113 : decode cX6_hopOf 113 = .ok (.if_icmp .ne 20, 3) := by decide +kernel
theorem dX6_hopOf_116 : decode cX6_hopOf 116 = .ok (.iload 7, 2) := by decide +kernel
theorem dX6_hopOf_118 : decode cX6_hopOf 118 = .ok (.ifCond .eq 15, 3) := by decide +kernel
theorem dX6_hopOf_121 : decode cX6_hopOf 121 = .ok (.iload_n 2, 1) := by decide +kernel
theorem dX6_hopOf_122 : decode cX6_hopOf 122 = .ok (.iconst 1, 1) := by decide +kernel
theorem dX6_hopOf_123 : decode cX6_hopOf 123 = .ok (.iload 5, 2) := by decide +kernel
theorem dX6_hopOf_125 : decode cX6_hopOf 125 = .ok (.ishl, 1) := by decide +kernel
theorem dX6_hopOf_126 : decode cX6_hopOf 126 = .ok (.iconst 1, 1) := by decide +kernel
theorem dX6_hopOf_127 : decode cX6_hopOf 127 = .ok (.iload 6, 2) := by decide +kernel
theorem dX6_hopOf_129 : decode cX6_hopOf 129 = .ok (.ishl, 1) := by decide +kernel
theorem dX6_hopOf_130 : decode cX6_hopOf 130 = .ok (.ior, 1) := by decide +kernel
theorem dX6_hopOf_131 : decode cX6_hopOf 131 = .ok (.ixor, 1) := by decide +kernel
theorem dX6_hopOf_132 : decode cX6_hopOf 132 = .ok (.istore_n 2, 1) := by decide +kernel
theorem dX6_hopOf_133 : decode cX6_hopOf 133 = .ok (.iinc 4 1, 3) := by decide +kernel
theorem dX6_hopOf_136 : decode cX6_hopOf 136 = .ok (.goto (-86), 3) := by decide +kernel
theorem dX6_hopOf_139 : decode cX6_hopOf 139 = .ok (.iload_n 1, 1) := by decide +kernel
theorem dX6_hopOf_140 : decode cX6_hopOf 140 = .ok (.iconst 1, 1) := by decide +kernel
theorem dX6_hopOf_141 : decode cX6_hopOf 141 = .ok (.iand, 1) := by decide +kernel
theorem dX6_hopOf_142 : decode cX6_hopOf 142 = .ok (.iconst 1, 1) := by decide +kernel
theorem dX6_hopOf_143 : decode cX6_hopOf 143 = .ok (.if_icmp .ne 8, 3) := by decide +kernel
theorem dX6_hopOf_146 : decode cX6_hopOf 146 = .ok (.bipush 13, 2) := by decide +kernel
theorem dX6_hopOf_148 : decode cX6_hopOf 148 = .ok (.goto 4, 3) := by decide +kernel
theorem dX6_hopOf_151 : decode cX6_hopOf 151 = .ok (.iconst 0, 1) := by decide +kernel
theorem dX6_hopOf_152 : decode cX6_hopOf 152 = .ok (.istore 4, 2) := by decide +kernel
theorem dX6_hopOf_154 : decode cX6_hopOf 154 = .ok (.iload_n 2, 1) := by decide +kernel
theorem dX6_hopOf_155 : decode cX6_hopOf 155 = .ok (.iload_n 0, 1) := by decide +kernel
theorem dX6_hopOf_156 : decode cX6_hopOf 156 = .ok (.bipush 19, 2) := by decide +kernel
theorem dX6_hopOf_158 : decode cX6_hopOf 158 = .ok (.ishr, 1) := by decide +kernel
theorem dX6_hopOf_159 : decode cX6_hopOf 159 = .ok (.bipush 31, 2) := by decide +kernel
theorem dX6_hopOf_161 : decode cX6_hopOf 161 = .ok (.iand, 1) := by decide +kernel
theorem dX6_hopOf_162 : decode cX6_hopOf 162 = .ok (.iadd, 1) := by decide +kernel
theorem dX6_hopOf_163 : decode cX6_hopOf 163 = .ok (.iload 4, 2) := by decide +kernel
theorem dX6_hopOf_165 : decode cX6_hopOf 165 = .ok (.iadd, 1) := by decide +kernel
theorem dX6_hopOf_166 : decode cX6_hopOf 166 = .ok (.bipush 23, 2) := by decide +kernel
theorem dX6_hopOf_168 : decode cX6_hopOf 168 = .ok (.irem, 1) := by decide +kernel
theorem dX6_hopOf_169 : decode cX6_hopOf 169 = .ok (.ireturn, 1) := by decide +kernel
theorem dX7_kernelOf_0 : decode cX7_kernelOf 0 = .ok (.iload_n 0, 1) := by decide +kernel
theorem dX7_kernelOf_1 : decode cX7_kernelOf 1 = .ok (.bipush 31, 2) := by decide +kernel
theorem dX7_kernelOf_3 : decode cX7_kernelOf 3 = .ok (.iand, 1) := by decide +kernel
theorem dX7_kernelOf_4 : decode cX7_kernelOf 4 = .ok (.iload_n 1, 1) := by decide +kernel
theorem dX7_kernelOf_5 : decode cX7_kernelOf 5 = .ok (.bipush 31, 2) := by decide +kernel
theorem dX7_kernelOf_7 : decode cX7_kernelOf 7 = .ok (.iand, 1) := by decide +kernel
theorem dX7_kernelOf_8 : decode cX7_kernelOf 8 = .ok (.iadd, 1) := by decide +kernel
theorem dX7_kernelOf_9 : decode cX7_kernelOf 9 = .ok (.bipush 31, 2) := by decide +kernel
theorem dX7_kernelOf_11 : decode cX7_kernelOf 11 = .ok (.iand, 1) := by decide +kernel
theorem dX7_kernelOf_12 : decode cX7_kernelOf 12 = .ok (.istore_n 2, 1) := by decide +kernel
theorem dX7_kernelOf_13 : decode cX7_kernelOf 13 = .ok (.iload_n 2, 1) := by decide +kernel
theorem dX7_kernelOf_14 : decode cX7_kernelOf 14 = .ok (.iload_n 0, 1) := by decide +kernel
theorem dX7_kernelOf_15 : decode cX7_kernelOf 15 = .ok (.iconst 5, 1) := by decide +kernel
theorem dX7_kernelOf_16 : decode cX7_kernelOf 16 = .ok (.ishr, 1) := by decide +kernel
theorem dX7_kernelOf_17 : decode cX7_kernelOf 17 = .ok (.bipush 31, 2) := by decide +kernel
theorem dX7_kernelOf_19 : decode cX7_kernelOf 19 = .ok (.iand, 1) := by decide +kernel
theorem dX7_kernelOf_20 : decode cX7_kernelOf 20 = .ok (.iload_n 1, 1) := by decide +kernel
theorem dX7_kernelOf_21 : decode cX7_kernelOf 21 = .ok (.bipush 7, 2) := by decide +kernel
theorem dX7_kernelOf_23 : decode cX7_kernelOf 23 = .ok (.ishr, 1) := by decide +kernel
theorem dX7_kernelOf_24 : decode cX7_kernelOf 24 = .ok (.bipush 31, 2) := by decide +kernel
theorem dX7_kernelOf_26 : decode cX7_kernelOf 26 = .ok (.iand, 1) := by decide +kernel
theorem dX7_kernelOf_27 : decode cX7_kernelOf 27 = .ok (.ixor, 1) := by decide +kernel
theorem dX7_kernelOf_28 : decode cX7_kernelOf 28 = .ok (.ixor, 1) := by decide +kernel
theorem dX7_kernelOf_29 : decode cX7_kernelOf 29 = .ok (.istore_n 2, 1) := by decide +kernel
theorem dX7_kernelOf_30 : decode cX7_kernelOf 30 = .ok (.iload_n 0, 1) := by decide +kernel
theorem dX7_kernelOf_31 : decode cX7_kernelOf 31 = .ok (.bipush 10, 2) := by decide +kernel
theorem dX7_kernelOf_33 : decode cX7_kernelOf 33 = .ok (.ishr, 1) := by decide +kernel
theorem dX7_kernelOf_34 : decode cX7_kernelOf 34 = .ok (.sipush 511, 3) := by decide +kernel
theorem dX7_kernelOf_37 : decode cX7_kernelOf 37 = .ok (.iand, 1) := by decide +kernel
theorem dX7_kernelOf_38 : decode cX7_kernelOf 38 = .ok (.iload_n 1, 1) := by decide +kernel
theorem dX7_kernelOf_39 : decode cX7_kernelOf 39 = .ok (.iconst 5, 1) := by decide +kernel
theorem dX7_kernelOf_40 : decode cX7_kernelOf 40 = .ok (.ishr, 1) := by decide +kernel
theorem dX7_kernelOf_41 : decode cX7_kernelOf 41 = .ok (.sipush 511, 3) := by decide +kernel
theorem dX7_kernelOf_44 : decode cX7_kernelOf 44 = .ok (.iand, 1) := by decide +kernel
theorem dX7_kernelOf_45 : decode cX7_kernelOf 45 = .ok (.ixor, 1) := by decide +kernel
theorem dX7_kernelOf_46 : decode cX7_kernelOf 46 = .ok (.istore_n 3, 1) := by decide +kernel
theorem dX7_kernelOf_47 : decode cX7_kernelOf 47 = .ok (.iconst 0, 1) := by decide +kernel
theorem dX7_kernelOf_48 : decode cX7_kernelOf 48 = .ok (.istore 4, 2) := by decide +kernel
theorem dX7_kernelOf_50 : decode cX7_kernelOf 50 = .ok (.iload 4, 2) := by decide +kernel
theorem dX7_kernelOf_52 : decode cX7_kernelOf 52 = .ok (.bipush 9, 2) := by decide +kernel
theorem dX7_kernelOf_54 : decode cX7_kernelOf 54 = .ok (.if_icmp .ge 80, 3) := by decide +kernel
theorem dX7_kernelOf_57 : decode cX7_kernelOf 57 = .ok (.getstatic 90, 3) := by decide +kernel
theorem dX7_kernelOf_60 : decode cX7_kernelOf 60 = .ok (.iconst 2, 1) := by decide +kernel
theorem dX7_kernelOf_61 : decode cX7_kernelOf 61 = .ok (.iload 4, 2) := by decide +kernel
theorem dX7_kernelOf_63 : decode cX7_kernelOf 63 = .ok (.imul, 1) := by decide +kernel
theorem dX7_kernelOf_64 : decode cX7_kernelOf 64 = .ok (.iaload, 1) := by decide +kernel
theorem dX7_kernelOf_65 : decode cX7_kernelOf 65 = .ok (.istore 5, 2) := by decide +kernel
theorem dX7_kernelOf_67 : decode cX7_kernelOf 67 = .ok (.getstatic 90, 3) := by decide +kernel
theorem dX7_kernelOf_70 : decode cX7_kernelOf 70 = .ok (.iconst 2, 1) := by decide +kernel
theorem dX7_kernelOf_71 : decode cX7_kernelOf 71 = .ok (.iload 4, 2) := by decide +kernel
theorem dX7_kernelOf_73 : decode cX7_kernelOf 73 = .ok (.imul, 1) := by decide +kernel
theorem dX7_kernelOf_74 : decode cX7_kernelOf 74 = .ok (.iconst 1, 1) := by decide +kernel
theorem dX7_kernelOf_75 : decode cX7_kernelOf 75 = .ok (.iadd, 1) := by decide +kernel
theorem dX7_kernelOf_76 : decode cX7_kernelOf 76 = .ok (.iaload, 1) := by decide +kernel
theorem dX7_kernelOf_77 : decode cX7_kernelOf 77 = .ok (.istore 6, 2) := by decide +kernel
theorem dX7_kernelOf_79 : decode cX7_kernelOf 79 = .ok (.iload_n 2, 1) := by decide +kernel
theorem dX7_kernelOf_80 : decode cX7_kernelOf 80 = .ok (.iload 5, 2) := by decide +kernel
theorem dX7_kernelOf_82 : decode cX7_kernelOf 82 = .ok (.ishr, 1) := by decide +kernel
theorem dX7_kernelOf_83 : decode cX7_kernelOf 83 = .ok (.iconst 1, 1) := by decide +kernel
theorem dX7_kernelOf_84 : decode cX7_kernelOf 84 = .ok (.iand, 1) := by decide +kernel
theorem dX7_kernelOf_85 : decode cX7_kernelOf 85 = .ok (.iload_n 2, 1) := by decide +kernel
theorem dX7_kernelOf_86 : decode cX7_kernelOf 86 = .ok (.iload 6, 2) := by decide +kernel
theorem dX7_kernelOf_88 : decode cX7_kernelOf 88 = .ok (.ishr, 1) := by decide +kernel
theorem dX7_kernelOf_89 : decode cX7_kernelOf 89 = .ok (.iconst 1, 1) := by decide +kernel
theorem dX7_kernelOf_90 : decode cX7_kernelOf 90 = .ok (.iand, 1) := by decide +kernel
theorem dX7_kernelOf_91 : decode cX7_kernelOf 91 = .ok (.if_icmp .eq 7, 3) := by decide +kernel
theorem dX7_kernelOf_94 : decode cX7_kernelOf 94 = .ok (.iconst 1, 1) := by decide +kernel
theorem dX7_kernelOf_95 : decode cX7_kernelOf 95 = .ok (.goto 4, 3) := by decide +kernel
theorem dX7_kernelOf_98 : decode cX7_kernelOf 98 = .ok (.iconst 0, 1) := by decide +kernel
theorem dX7_kernelOf_99 : decode cX7_kernelOf 99 = .ok (.istore 7, 2) := by decide +kernel
theorem dX7_kernelOf_101 : decode cX7_kernelOf 101 = .ok (.iload_n 3, 1) := by decide +kernel
theorem dX7_kernelOf_102 : decode cX7_kernelOf 102 = .ok (.iload 4, 2) := by decide +kernel
theorem dX7_kernelOf_104 : decode cX7_kernelOf 104 = .ok (.ishr, 1) := by decide +kernel
theorem dX7_kernelOf_105 : decode cX7_kernelOf 105 = .ok (.iconst 1, 1) := by decide +kernel
theorem dX7_kernelOf_106 : decode cX7_kernelOf 106 = .ok (.iand, 1) := by decide +kernel
theorem dX7_kernelOf_107 : decode cX7_kernelOf 107 = .ok (.iconst 1, 1) := by decide +kernel
theorem dX7_kernelOf_108 : decode cX7_kernelOf 108 = .ok (.if_icmp .ne 20, 3) := by decide +kernel
theorem dX7_kernelOf_111 : decode cX7_kernelOf 111 = .ok (.iload 7, 2) := by decide +kernel
theorem dX7_kernelOf_113 : decode cX7_kernelOf 113 = .ok (.ifCond .eq 15, 3) := by decide +kernel
theorem dX7_kernelOf_116 : decode cX7_kernelOf 116 = .ok (.iload_n 2, 1) := by decide +kernel
theorem dX7_kernelOf_117 : decode cX7_kernelOf 117 = .ok (.iconst 1, 1) := by decide +kernel
theorem dX7_kernelOf_118 : decode cX7_kernelOf 118 = .ok (.iload 5, 2) := by decide +kernel
theorem dX7_kernelOf_120 : decode cX7_kernelOf 120 = .ok (.ishl, 1) := by decide +kernel
theorem dX7_kernelOf_121 : decode cX7_kernelOf 121 = .ok (.iconst 1, 1) := by decide +kernel
theorem dX7_kernelOf_122 : decode cX7_kernelOf 122 = .ok (.iload 6, 2) := by decide +kernel
theorem dX7_kernelOf_124 : decode cX7_kernelOf 124 = .ok (.ishl, 1) := by decide +kernel
theorem dX7_kernelOf_125 : decode cX7_kernelOf 125 = .ok (.ior, 1) := by decide +kernel
theorem dX7_kernelOf_126 : decode cX7_kernelOf 126 = .ok (.ixor, 1) := by decide +kernel
theorem dX7_kernelOf_127 : decode cX7_kernelOf 127 = .ok (.istore_n 2, 1) := by decide +kernel
theorem dX7_kernelOf_128 : decode cX7_kernelOf 128 = .ok (.iinc 4 1, 3) := by decide +kernel
theorem dX7_kernelOf_131 : decode cX7_kernelOf 131 = .ok (.goto (-81), 3) := by decide +kernel
theorem dX7_kernelOf_134 : decode cX7_kernelOf 134 = .ok (.iload_n 2, 1) := by decide +kernel
theorem dX7_kernelOf_135 : decode cX7_kernelOf 135 = .ok (.iload_n 0, 1) := by decide +kernel
theorem dX7_kernelOf_136 : decode cX7_kernelOf 136 = .ok (.bipush 19, 2) := by decide +kernel
theorem dX7_kernelOf_138 : decode cX7_kernelOf 138 = .ok (.ishr, 1) := by decide +kernel
theorem dX7_kernelOf_139 : decode cX7_kernelOf 139 = .ok (.bipush 31, 2) := by decide +kernel
theorem dX7_kernelOf_141 : decode cX7_kernelOf 141 = .ok (.iand, 1) := by decide +kernel
theorem dX7_kernelOf_142 : decode cX7_kernelOf 142 = .ok (.iadd, 1) := by decide +kernel
theorem dX7_kernelOf_143 : decode cX7_kernelOf 143 = .ok (.bipush 13, 2) := by decide +kernel
theorem dX7_kernelOf_145 : decode cX7_kernelOf 145 = .ok (.iload_n 1, 1) := by decide +kernel
theorem dX7_kernelOf_146 : decode cX7_kernelOf 146 = .ok (.iconst 1, 1) := by decide +kernel
theorem dX7_kernelOf_147 : decode cX7_kernelOf 147 = .ok (.iand, 1) := by decide +kernel
theorem dX7_kernelOf_148 : decode cX7_kernelOf 148 = .ok (.imul, 1) := by decide +kernel
theorem dX7_kernelOf_149 : decode cX7_kernelOf 149 = .ok (.iadd, 1) := by decide +kernel
theorem dX7_kernelOf_150 : decode cX7_kernelOf 150 = .ok (.bipush 23, 2) := by decide +kernel
theorem dX7_kernelOf_152 : decode cX7_kernelOf 152 = .ok (.irem, 1) := by decide +kernel
theorem dX7_kernelOf_153 : decode cX7_kernelOf 153 = .ok (.ireturn, 1) := by decide +kernel
theorem dX7_bits_0 : decode cX7_bits 0 = .ok (.iconst 0, 1) := by decide +kernel
theorem dX7_bits_1 : decode cX7_bits 1 = .ok (.istore_n 1, 1) := by decide +kernel
theorem dX7_bits_2 : decode cX7_bits 2 = .ok (.iload_n 0, 1) := by decide +kernel
theorem dX7_bits_3 : decode cX7_bits 3 = .ok (.istore_n 2, 1) := by decide +kernel
theorem dX7_bits_4 : decode cX7_bits 4 = .ok (.iload_n 2, 1) := by decide +kernel
theorem dX7_bits_5 : decode cX7_bits 5 = .ok (.ifCond .eq 15, 3) := by decide +kernel
theorem dX7_bits_8 : decode cX7_bits 8 = .ok (.iinc 1 1, 3) := by decide +kernel
theorem dX7_bits_11 : decode cX7_bits 11 = .ok (.iload_n 2, 1) := by decide +kernel
theorem dX7_bits_12 : decode cX7_bits 12 = .ok (.iload_n 2, 1) := by decide +kernel
theorem dX7_bits_13 : decode cX7_bits 13 = .ok (.iconst 1, 1) := by decide +kernel
theorem dX7_bits_14 : decode cX7_bits 14 = .ok (.isub, 1) := by decide +kernel
theorem dX7_bits_15 : decode cX7_bits 15 = .ok (.iand, 1) := by decide +kernel
theorem dX7_bits_16 : decode cX7_bits 16 = .ok (.istore_n 2, 1) := by decide +kernel
theorem dX7_bits_17 : decode cX7_bits 17 = .ok (.goto (-13), 3) := by decide +kernel
theorem dX7_bits_20 : decode cX7_bits 20 = .ok (.iload_n 1, 1) := by decide +kernel
theorem dX7_bits_21 : decode cX7_bits 21 = .ok (.ireturn, 1) := by decide +kernel
set_option maxHeartbeats 4000000 in
set_option maxRecDepth 100000 in
theorem c_isWithin (l : Launch) (E : hE) (ρ : Nat → Nat → Int32) (v lo hi : Int32) (a b : Int) (ha : lo.toInt = a) (hb2 : hi.toInt = b) : Met l yX6_isWithin (.code yX6_isWithin cX6_isWithin 3 (some .boolean) :: gw_all) (rmk 0 0) (cPre E ρ [.int v, .int lo, .int hi]) (cI E (fun r ρ1 => ρ = ρ1 ∧ ((r = 1 ∧ iR v a b) ∨ (r = 0 ∧ ¬ iR v a b)))) 0 0 (hA E) := by
  refine ent (own := RX6) (by decide) rfl (Nat.le_of_ble_eq_true rfl) ?_
  intro p e s m below meth c ls B hr hlk hl hP hS
  have hx := B.1.1
  have hb := B.1.2.1
  have hown := B.1.2.2.2.1
  have hts := B.1.2.2.2.2
  have hl : lv_has ls 3 [(0, .int v), (1, .int lo), (2, .int hi)] := hl
  refine lv_iload_n hx hb dX6_isWithin_0 rfl (lv_at hl 0 rfl) ?_
  refine lv_iload_n hx hb dX6_isWithin_1 rfl (lv_at hl 1 rfl) ?_
  refine lv_icmp_lt (tgt := 14) hx hb dX6_isWithin_2 (by decide) (fun c1 => ?_) (fun c1 => ?_)
  · skip
    refine lv_iconst (v := 0) hx hb dX6_isWithin_14 (by decide) ?_
    exact ret_z B hr hlk hP hS dX6_isWithin_15 (Or.inl rfl) (⟨rfl, Or.inr ⟨rfl, iR_lo ha c1⟩⟩)
  · skip
    refine lv_iload_n hx hb dX6_isWithin_5 rfl (lv_at hl 0 rfl) ?_
    refine lv_iload_n hx hb dX6_isWithin_6 rfl (lv_at hl 2 rfl) ?_
    refine lv_icmp_gt (tgt := 14) hx hb dX6_isWithin_7 (by decide) (fun c2 => ?_) (fun c2 => ?_)
    · skip
      refine lv_iconst (v := 0) hx hb dX6_isWithin_14 (by decide) ?_
      exact ret_z B hr hlk hP hS dX6_isWithin_15 (Or.inl rfl) (⟨rfl, Or.inr ⟨rfl, iR_hi hb2 c2⟩⟩)
    · skip
      refine lv_iconst (v := 1) hx hb dX6_isWithin_10 (by decide) ?_
      refine lv_goto (tgt := 15) hx hb dX6_isWithin_11 (by decide) ?_
      exact ret_z B hr hlk hP hS dX6_isWithin_15 (Or.inr rfl) (⟨rfl, Or.inl ⟨rfl, iR_in ha hb2 c1 c2⟩⟩)

theorem lk_RX6_54 : LkS RX6 54 yX6_isWithin cX6_isWithin 3 (some .boolean) 3 := ⟨⟨mw_455, mw_456, mw_52, mw_457⟩, by decide +kernel⟩
set_option maxHeartbeats 4000000 in
set_option maxRecDepth 100000 in
theorem c_isEvenWithin (l : Launch) (E : hE) (ρ : Nat → Nat → Int32) (v lo hi : Int32) (a b : Int) (ha : lo.toInt = a) (hb2 : hi.toInt = b) : Met l yX6_isEvenWithin (.code yX6_isEvenWithin cX6_isEvenWithin 3 (some .boolean) :: gw_all) (rmk 1 40) (cPre E ρ [.int v, .int lo, .int hi]) (cI E (fun r ρ1 => ρ = ρ1 ∧ ((r = 1 ∧ iR v a b ∧ ev v) ∨ (r = 0 ∧ ¬ (iR v a b ∧ ev v))))) 0 0 (hA E) := by
  refine ent (own := RX6) (by decide) rfl (Nat.le_of_ble_eq_true rfl) ?_
  intro p e s m below meth c ls B hr hlk hl hP hS
  have hx := B.1.1
  have hb := B.1.2.1
  have hown := B.1.2.2.2.1
  have hts := B.1.2.2.2.2
  have hl : lv_has ls 3 [(0, .int v), (1, .int lo), (2, .int hi)] := hl
  refine lv_iload_n hx hb dX6_isEvenWithin_0 rfl (lv_at hl 0 rfl) ?_
  refine lv_iload_n hx hb dX6_isEvenWithin_1 rfl (lv_at hl 1 rfl) ?_
  refine lv_iload_n hx hb dX6_isEvenWithin_2 rfl (lv_at hl 2 rfl) ?_
  refine call_i (cS (av := [.int v, .int lo, .int hi]) (rest := []) B hP hS (c_isWithin l E ρ v lo hi a b ha hb2) lk_RX6_54 rfl rfl hl.1 (Nat.le_of_ble_eq_true rfl) ⟨Nat.le_of_ble_eq_true rfl, Nat.le_of_ble_eq_true rfl⟩ ⟨Nat.le_of_ble_eq_true rfl, Nat.le_of_ble_eq_true rfl⟩ dX6_isEvenWithin_3) hS (fun r1 ρ2 H locs q3 hP hS => ?_)
  obtain ⟨rfl, q3⟩ := q3
  rcases q3 with ⟨rfl, q3⟩ | ⟨rfl, q3⟩
  · skip
    refine lv_if_eq (tgt := 19) hx hb dX6_isEvenWithin_6 (by decide) (fun c4 => absurd c4 (by decide)) (fun _ => ?_)
    refine lv_iload_n hx hb dX6_isEvenWithin_9 rfl (lv_at hl 0 rfl) ?_
    refine lv_iconst (v := 2) hx hb dX6_isEvenWithin_10 (by decide) ?_
    refine lv_irem hx hb dX6_isEvenWithin_11 (by decide) ?_
    refine lv_if_ne (tgt := 19) hx hb dX6_isEvenWithin_12 (by decide) (fun c5 => ?_) (fun c5 => ?_)
    · skip
      refine lv_iconst (v := 0) hx hb dX6_isEvenWithin_19 (by decide) ?_
      exact ret_z B hr hlk hP hS dX6_isEvenWithin_20 (Or.inl rfl) (⟨rfl, Or.inr ⟨rfl, fun z => c5 z.2⟩⟩)
    · skip
      refine lv_iconst (v := 1) hx hb dX6_isEvenWithin_15 (by decide) ?_
      refine lv_goto (tgt := 20) hx hb dX6_isEvenWithin_16 (by decide) ?_
      exact ret_z B hr hlk hP hS dX6_isEvenWithin_20 (Or.inr rfl) (⟨rfl, Or.inl ⟨rfl, q3, c5⟩⟩)
  · skip
    refine lv_if_eq (tgt := 19) hx hb dX6_isEvenWithin_6 (by decide) (fun _ => ?_) (fun c6 => absurd c6 (by decide))
    refine lv_iconst (v := 0) hx hb dX6_isEvenWithin_19 (by decide) ?_
    exact ret_z B hr hlk hP hS dX6_isEvenWithin_20 (Or.inl rfl) (⟨rfl, Or.inr ⟨rfl, fun z => q3 z.1⟩⟩)

set_option maxHeartbeats 4000000 in
set_option maxRecDepth 100000 in
theorem c_hopOf (l : Launch) (E : hE) (ρ : Nat → Nat → Int32) (a c0 : Int32) : Met l yX6_hopOf (.code yX6_hopOf cX6_hopOf 8 (some .int) :: gw_all) (rmk 0 0) (cPre E ρ [.int a, .int c0]) (cI E (fun r ρ1 => ρ = ρ1 ∧ r = HOP a c0)) 0 0 (hA E) := by
  refine ent (own := RX6) (by decide) rfl (Nat.le_of_ble_eq_true rfl) ?_
  intro p e s m below meth c ls B hr hlk hl hP hS
  have hx := B.1.1
  have hb := B.1.2.1
  have hown := B.1.2.2.2.1
  have hts := B.1.2.2.2.2
  have hl : lv_has ls 8 [(0, .int a), (1, .int c0)] := hl
  refine lv_iload_n hx hb dX6_hopOf_0 rfl (lv_at hl 0 rfl) ?_
  refine lv_bipush (v := 31) hx hb dX6_hopOf_1 (by decide) ?_
  refine lv_iand hx hb dX6_hopOf_3 ?_
  refine lv_iload_n hx hb dX6_hopOf_4 rfl (lv_at hl 1 rfl) ?_
  refine lv_bipush (v := 31) hx hb dX6_hopOf_5 (by decide) ?_
  refine lv_iand hx hb dX6_hopOf_7 ?_
  refine lv_iadd hx hb dX6_hopOf_8 ?_
  refine lv_bipush (v := 32) hx hb dX6_hopOf_9 (by decide) ?_
  refine lv_irem hx hb dX6_hopOf_11 (by decide) ?_
  refine lv_istore_n (lv' := [(2, .int (((a &&& 31) + (c0 &&& 31)) - ((a &&& 31) + (c0 &&& 31)) / 32 * 32)), (0, .int a), (1, .int c0)]) hx hb dX6_hopOf_12 rfl hl (by decide) rfl (fun ls hl => ?_)
  refine lv_iload_n hx hb dX6_hopOf_13 rfl (lv_at hl 0 rfl) ?_
  refine lv_iload_n hx hb dX6_hopOf_14 rfl (lv_at hl 1 rfl) ?_
  refine lv_iconst (v := 5) hx hb dX6_hopOf_15 (by decide) ?_
  refine lv_ishr hx hb dX6_hopOf_16 ?_
  refine lv_bipush (v := 31) hx hb dX6_hopOf_17 (by decide) ?_
  refine lv_iand hx hb dX6_hopOf_19 ?_
  refine lv_ixor hx hb dX6_hopOf_20 ?_
  refine lv_iload_n hx hb dX6_hopOf_21 rfl (lv_at hl 2 rfl) ?_
  refine lv_bipush (v := 7) hx hb dX6_hopOf_22 (by decide) ?_
  refine lv_ishr hx hb dX6_hopOf_24 ?_
  refine lv_bipush (v := 31) hx hb dX6_hopOf_25 (by decide) ?_
  refine lv_iand hx hb dX6_hopOf_27 ?_
  refine lv_ixor hx hb dX6_hopOf_28 ?_
  refine lv_istore_n (lv' := [(2, .int (((((a &&& 31) + (c0 &&& 31)) - ((a &&& 31) + (c0 &&& 31)) / 32 * 32) ^^^ ((a >>> ((5 : Int32) &&& 31)) &&& 31)) ^^^ ((c0 >>> ((7 : Int32) &&& 31)) &&& 31))), (0, .int a), (1, .int c0)]) hx hb dX6_hopOf_29 rfl hl (by decide) rfl (fun ls hl => ?_)
  refine lv_iload_n hx hb dX6_hopOf_30 rfl (lv_at hl 1 rfl) ?_
  refine lv_bipush (v := 10) hx hb dX6_hopOf_31 (by decide) ?_
  refine lv_ishr hx hb dX6_hopOf_33 ?_
  refine lv_sipush (v := 511) hx hb dX6_hopOf_34 (by decide) ?_
  refine lv_iand hx hb dX6_hopOf_37 ?_
  refine lv_iload_n hx hb dX6_hopOf_38 rfl (lv_at hl 2 rfl) ?_
  refine lv_iconst (v := 5) hx hb dX6_hopOf_39 (by decide) ?_
  refine lv_ishr hx hb dX6_hopOf_40 ?_
  refine lv_sipush (v := 511) hx hb dX6_hopOf_41 (by decide) ?_
  refine lv_iand hx hb dX6_hopOf_44 ?_
  refine lv_ixor hx hb dX6_hopOf_45 ?_
  refine lv_istore_n (lv' := [(3, .int (((a >>> ((10 : Int32) &&& 31)) &&& 511) ^^^ ((c0 >>> ((5 : Int32) &&& 31)) &&& 511))), (2, .int (((((a &&& 31) + (c0 &&& 31)) - ((a &&& 31) + (c0 &&& 31)) / 32 * 32) ^^^ ((a >>> ((5 : Int32) &&& 31)) &&& 31)) ^^^ ((c0 >>> ((7 : Int32) &&& 31)) &&& 31))), (0, .int a), (1, .int c0)]) hx hb dX6_hopOf_46 rfl hl (by decide) rfl (fun ls hl => ?_)
  refine lv_iconst (v := 0) hx hb dX6_hopOf_47 (by decide) ?_
  refine lv_istore (lv' := [(4, .int 0), (3, .int (((a >>> ((10 : Int32) &&& 31)) &&& 511) ^^^ ((c0 >>> ((5 : Int32) &&& 31)) &&& 511))), (2, .int (((((a &&& 31) + (c0 &&& 31)) - ((a &&& 31) + (c0 &&& 31)) / 32 * 32) ^^^ ((a >>> ((5 : Int32) &&& 31)) &&& 31)) ^^^ ((c0 >>> ((7 : Int32) &&& 31)) &&& 31))), (0, .int a), (1, .int c0)]) hx hb dX6_hopOf_48 hl (by decide) rfl (fun ls hl => ?_)
  have L : ∀ (d k : Nat) (z : Int32) (H : Heap) (locs : List Loc) (ls : Array Slot), k ≤ 9 → 9 - k < d → z = hzC (kP a c0) k (kZ a c0) → WP E ρ H → va_S (hA E) s.heap H locs → lv_has ls 8 [(0, .int a), (1, .int c0), (2, .int z), (3, .int (kP a c0)), (4, .int (nI k))] → W p l e (rmk 0 0) s m ([.int a, .int c0] : List Value).toArray below meth c H locs 0 0 (MQ below (cI E (fun r ρ1 => ρ = ρ1 ∧ r = HOP a c0)) ([.int a, .int c0] : List Value).toArray s 0 0 (hA E)) (F0 m 50 ls []) := by
    intro d
    induction d with
    | zero => intro k z H locs ls h1 h2; exact absurd h2 (by omega)
    | succ d ih =>
      intro k z H locs ls hk9 hd hz hP hS hl
      refine lv_iload hx hb dX6_hopOf_50 (lv_at hl 4 rfl) ?_
      refine va_gets hx hb (B.2.2.2.2.1).1 hS hown (hts _ mw_732) (fun _ h9 => h9) dX6_hopOf_52 ?_
      refine va_tlen hx hb (B.2.2.2.2.1).2 hS (v := 9) (by decide) dX6_hopOf_55 ?_
      refine lv_icmp_ge (tgt := 139) hx hb dX6_hopOf_56 (by decide) (fun c1 => ?_) (fun c1 => ?_)
      · skip
        have hk : k = 9 := by have := (nI_leI (a := 9) (b := k) (by decide) (by omega)).mp c1; omega
        subst hk
        refine lv_iload_n hx hb dX6_hopOf_139 rfl (lv_at hl 1 rfl) ?_
        refine lv_iconst (v := 1) hx hb dX6_hopOf_140 (by decide) ?_
        refine lv_iand hx hb dX6_hopOf_141 ?_
        refine lv_iconst (v := 1) hx hb dX6_hopOf_142 (by decide) ?_
        refine lv_icmp_ne (tgt := 151) hx hb dX6_hopOf_143 (by decide) (fun c2 => ?_) (fun c2 => ?_)
        · skip
          refine lv_iconst (v := 0) hx hb dX6_hopOf_151 (by decide) ?_
          refine lv_istore (lv' := [(4, .int 0), (0, .int a), (1, .int c0), (2, .int z), (3, .int (kP a c0))]) hx hb dX6_hopOf_152 hl (by decide) rfl (fun ls hl => ?_)
          refine lv_iload_n hx hb dX6_hopOf_154 rfl (lv_at hl 3 rfl) ?_
          refine lv_iload_n hx hb dX6_hopOf_155 rfl (lv_at hl 1 rfl) ?_
          refine lv_bipush (v := 19) hx hb dX6_hopOf_156 (by decide) ?_
          refine lv_ishr hx hb dX6_hopOf_158 ?_
          refine lv_bipush (v := 31) hx hb dX6_hopOf_159 (by decide) ?_
          refine lv_iand hx hb dX6_hopOf_161 ?_
          refine lv_iadd hx hb dX6_hopOf_162 ?_
          refine lv_iload hx hb dX6_hopOf_163 (lv_at hl 0 rfl) ?_
          refine lv_iadd hx hb dX6_hopOf_165 ?_
          refine lv_bipush (v := 23) hx hb dX6_hopOf_166 (by decide) ?_
          refine lv_irem hx hb dX6_hopOf_168 (by decide) ?_
          exact ret_i B hr hlk hP hS dX6_hopOf_169 (⟨rfl, by unfold HOP rem23; rw [← hz, if_neg c2]⟩)
        · skip
          refine lv_bipush (v := 13) hx hb dX6_hopOf_146 (by decide) ?_
          refine lv_goto (tgt := 152) hx hb dX6_hopOf_148 (by decide) ?_
          refine lv_istore (lv' := [(4, .int 13), (0, .int a), (1, .int c0), (2, .int z), (3, .int (kP a c0))]) hx hb dX6_hopOf_152 hl (by decide) rfl (fun ls hl => ?_)
          refine lv_iload_n hx hb dX6_hopOf_154 rfl (lv_at hl 3 rfl) ?_
          refine lv_iload_n hx hb dX6_hopOf_155 rfl (lv_at hl 1 rfl) ?_
          refine lv_bipush (v := 19) hx hb dX6_hopOf_156 (by decide) ?_
          refine lv_ishr hx hb dX6_hopOf_158 ?_
          refine lv_bipush (v := 31) hx hb dX6_hopOf_159 (by decide) ?_
          refine lv_iand hx hb dX6_hopOf_161 ?_
          refine lv_iadd hx hb dX6_hopOf_162 ?_
          refine lv_iload hx hb dX6_hopOf_163 (lv_at hl 0 rfl) ?_
          refine lv_iadd hx hb dX6_hopOf_165 ?_
          refine lv_bipush (v := 23) hx hb dX6_hopOf_166 (by decide) ?_
          refine lv_irem hx hb dX6_hopOf_168 (by decide) ?_
          exact ret_i B hr hlk hP hS dX6_hopOf_169 (⟨rfl, by unfold HOP rem23; rw [← hz, if_pos c2]⟩)
      · skip
        have hk : k < 9 := Nat.not_le.mp (fun z => c1 ((nI_leI (a := 9) (b := k) (by decide) (by omega)).mpr z))
        refine lv_iload hx hb dX6_hopOf_59 (lv_at hl 4 rfl) ?_
        refine va_gets hx hb (B.2.2.2.2.2.1).1 hS hown (hts _ mw_734) (fun _ h9 => h9) dX6_hopOf_61 ?_
        refine va_tlen hx hb (B.2.2.2.2.2.1).2 hS (v := 9) (by decide) dX6_hopOf_64 ?_
        refine lv_icmp_ge (tgt := 139) hx hb dX6_hopOf_65 (by decide) (fun c3 => absurd c3 (fun z => absurd ((nI_leI (a := 9) (b := k) (by decide) (by omega)).mp z) (by omega))) (fun _ => ?_)
        refine va_gets hx hb (B.2.2.2.2.1).1 hS hown (hts _ mw_732) (fun _ h9 => h9) dX6_hopOf_68 ?_
        refine lv_iload hx hb dX6_hopOf_71 (lv_at hl 4 rfl) ?_
        refine va_ti hx hb (B.2.2.2.2.1).2 hS (vp_in_nI (by omega) (by decide)) (v := .int (e1 k)) (by rw [nI_clamp (by omega)]; rfl) dX6_hopOf_73 ?_
        refine lv_istore (lv' := [(5, .int (e1 k)), (0, .int a), (1, .int c0), (2, .int z), (3, .int (kP a c0)), (4, .int (nI k))]) hx hb dX6_hopOf_74 hl (by decide) rfl (fun ls hl => ?_)
        refine va_gets hx hb (B.2.2.2.2.2.1).1 hS hown (hts _ mw_734) (fun _ h9 => h9) dX6_hopOf_76 ?_
        refine lv_iload hx hb dX6_hopOf_79 (lv_at hl 5 rfl) ?_
        refine va_ti hx hb (B.2.2.2.2.2.1).2 hS (vp_in_nI (by omega) (by decide)) (v := .int (e2 k)) (by rw [nI_clamp (by omega)]; rfl) dX6_hopOf_81 ?_
        refine lv_istore (lv' := [(6, .int (e2 k)), (5, .int (e1 k)), (0, .int a), (1, .int c0), (2, .int z), (3, .int (kP a c0)), (4, .int (nI k))]) hx hb dX6_hopOf_82 hl (by decide) rfl (fun ls hl => ?_)
        refine lv_iload_n hx hb dX6_hopOf_84 rfl (lv_at hl 4 rfl) ?_
        refine lv_iload hx hb dX6_hopOf_85 (lv_at hl 1 rfl) ?_
        refine lv_ishr hx hb dX6_hopOf_87 ?_
        refine lv_iload_n hx hb dX6_hopOf_88 rfl (lv_at hl 4 rfl) ?_
        refine lv_iload hx hb dX6_hopOf_89 (lv_at hl 0 rfl) ?_
        refine lv_ishr hx hb dX6_hopOf_91 ?_
        refine lv_ixor hx hb dX6_hopOf_92 ?_
        refine lv_iconst (v := 1) hx hb dX6_hopOf_93 (by decide) ?_
        refine lv_iand hx hb dX6_hopOf_94 ?_
        refine lv_iconst (v := 1) hx hb dX6_hopOf_95 (by decide) ?_
        refine lv_icmp_ne (tgt := 103) hx hb dX6_hopOf_96 (by decide) (fun c4 => ?_) (fun c4 => ?_)
        · skip
          refine lv_iconst (v := 0) hx hb dX6_hopOf_103 (by decide) ?_
          refine lv_istore (lv' := [(7, .int 0), (6, .int (e2 k)), (5, .int (e1 k)), (0, .int a), (1, .int c0), (2, .int z), (3, .int (kP a c0)), (4, .int (nI k))]) hx hb dX6_hopOf_104 hl (by decide) rfl (fun ls hl => ?_)
          refine lv_iload_n hx hb dX6_hopOf_106 rfl (lv_at hl 6 rfl) ?_
          refine lv_iload hx hb dX6_hopOf_107 (lv_at hl 7 rfl) ?_
          refine lv_ishr hx hb dX6_hopOf_109 ?_
          refine lv_iconst (v := 1) hx hb dX6_hopOf_110 (by decide) ?_
          refine lv_iand hx hb dX6_hopOf_111 ?_
          refine lv_iconst (v := 1) hx hb dX6_hopOf_112 (by decide) ?_
          refine lv_icmp_ne (tgt := 133) hx hb dX6_hopOf_113 (by decide) (fun c5 => ?_) (fun c5 => ?_)
          · skip
            refine lv_iinc (v := (nI (k + 1))) (lv' := [(4, .int (nI (k + 1))), (7, .int 0), (6, .int (e2 k)), (5, .int (e1 k)), (0, .int a), (1, .int c0), (2, .int z), (3, .int (kP a c0))]) hx hb dX6_hopOf_133 hl (k := 7) rfl (nI_1 k) (by decide) rfl (fun ls hl => ?_)
            refine lv_goto (tgt := 50) hx hb dX6_hopOf_136 (by decide) ?_
            exact ih (k + 1) _ _ _ ls (by omega) (by omega) (by show _ = stC (kP a c0) k (hzC (kP a c0) k (kZ a c0)); rw [← hz]; exact (if_neg (fun q => c4 q.1)).symm) hP hS (lv_sub hl [4, 5, 6, 7, 0] rfl)
          · skip
            refine lv_iload hx hb dX6_hopOf_116 (lv_at hl 0 rfl) ?_
            refine lv_if_eq (tgt := 133) hx hb dX6_hopOf_118 (by decide) (fun _ => ?_) (fun c6 => absurd c6 (by decide))
            refine lv_iinc (v := (nI (k + 1))) (lv' := [(4, .int (nI (k + 1))), (7, .int 0), (6, .int (e2 k)), (5, .int (e1 k)), (0, .int a), (1, .int c0), (2, .int z), (3, .int (kP a c0))]) hx hb dX6_hopOf_133 hl (k := 7) rfl (nI_1 k) (by decide) rfl (fun ls hl => ?_)
            refine lv_goto (tgt := 50) hx hb dX6_hopOf_136 (by decide) ?_
            exact ih (k + 1) _ _ _ ls (by omega) (by omega) (by show _ = stC (kP a c0) k (hzC (kP a c0) k (kZ a c0)); rw [← hz]; exact (if_neg (fun q => c4 q.1)).symm) hP hS (lv_sub hl [4, 5, 6, 7, 0] rfl)
        · skip
          refine lv_iconst (v := 1) hx hb dX6_hopOf_99 (by decide) ?_
          refine lv_goto (tgt := 104) hx hb dX6_hopOf_100 (by decide) ?_
          refine lv_istore (lv' := [(7, .int 1), (6, .int (e2 k)), (5, .int (e1 k)), (0, .int a), (1, .int c0), (2, .int z), (3, .int (kP a c0)), (4, .int (nI k))]) hx hb dX6_hopOf_104 hl (by decide) rfl (fun ls hl => ?_)
          refine lv_iload_n hx hb dX6_hopOf_106 rfl (lv_at hl 6 rfl) ?_
          refine lv_iload hx hb dX6_hopOf_107 (lv_at hl 7 rfl) ?_
          refine lv_ishr hx hb dX6_hopOf_109 ?_
          refine lv_iconst (v := 1) hx hb dX6_hopOf_110 (by decide) ?_
          refine lv_iand hx hb dX6_hopOf_111 ?_
          refine lv_iconst (v := 1) hx hb dX6_hopOf_112 (by decide) ?_
          refine lv_icmp_ne (tgt := 133) hx hb dX6_hopOf_113 (by decide) (fun c7 => ?_) (fun c7 => ?_)
          · skip
            refine lv_iinc (v := (nI (k + 1))) (lv' := [(4, .int (nI (k + 1))), (7, .int 1), (6, .int (e2 k)), (5, .int (e1 k)), (0, .int a), (1, .int c0), (2, .int z), (3, .int (kP a c0))]) hx hb dX6_hopOf_133 hl (k := 7) rfl (nI_1 k) (by decide) rfl (fun ls hl => ?_)
            refine lv_goto (tgt := 50) hx hb dX6_hopOf_136 (by decide) ?_
            exact ih (k + 1) _ _ _ ls (by omega) (by omega) (by show _ = stC (kP a c0) k (hzC (kP a c0) k (kZ a c0)); rw [← hz]; exact (if_neg (fun q => c7 q.2)).symm) hP hS (lv_sub hl [4, 5, 6, 7, 0] rfl)
          · skip
            refine lv_iload hx hb dX6_hopOf_116 (lv_at hl 0 rfl) ?_
            refine lv_if_eq (tgt := 133) hx hb dX6_hopOf_118 (by decide) (fun c8 => absurd c8 (by decide)) (fun _ => ?_)
            refine lv_iload_n hx hb dX6_hopOf_121 rfl (lv_at hl 5 rfl) ?_
            refine lv_iconst (v := 1) hx hb dX6_hopOf_122 (by decide) ?_
            refine lv_iload hx hb dX6_hopOf_123 (lv_at hl 2 rfl) ?_
            refine lv_ishl hx hb dX6_hopOf_125 ?_
            refine lv_iconst (v := 1) hx hb dX6_hopOf_126 (by decide) ?_
            refine lv_iload hx hb dX6_hopOf_127 (lv_at hl 1 rfl) ?_
            refine lv_ishl hx hb dX6_hopOf_129 ?_
            refine lv_ior hx hb dX6_hopOf_130 ?_
            refine lv_ixor hx hb dX6_hopOf_131 ?_
            refine lv_istore_n (lv' := [(2, .int (z ^^^ ((1 <<< (((e1 k) : Int32) &&& 31)) ||| (1 <<< (((e2 k) : Int32) &&& 31))))), (7, .int 1), (6, .int (e2 k)), (5, .int (e1 k)), (0, .int a), (1, .int c0), (3, .int (kP a c0)), (4, .int (nI k))]) hx hb dX6_hopOf_132 rfl hl (by decide) rfl (fun ls hl => ?_)
            refine lv_iinc (v := (nI (k + 1))) (lv' := [(4, .int (nI (k + 1))), (2, .int (z ^^^ ((1 <<< (((e1 k) : Int32) &&& 31)) ||| (1 <<< (((e2 k) : Int32) &&& 31))))), (7, .int 1), (6, .int (e2 k)), (5, .int (e1 k)), (0, .int a), (1, .int c0), (3, .int (kP a c0))]) hx hb dX6_hopOf_133 hl (k := 7) rfl (nI_1 k) (by decide) rfl (fun ls hl => ?_)
            refine lv_goto (tgt := 50) hx hb dX6_hopOf_136 (by decide) ?_
            exact ih (k + 1) _ _ _ ls (by omega) (by omega) (by show _ = stC (kP a c0) k (hzC (kP a c0) k (kZ a c0)); rw [← hz]; exact (if_pos ⟨c4, c7⟩).symm) hP hS (lv_sub hl [5, 6, 1, 7, 0] rfl)
  exact L 10 0 _ _ _ ls (by omega) (by omega) rfl hP hS (lv_sub hl [3, 4, 2, 1, 0] rfl)

set_option maxHeartbeats 4000000 in
set_option maxRecDepth 100000 in
theorem c_kernelOf (l : Launch) (E : hE) (ρ : Nat → Nat → Int32) (a c0 : Int32) : Met l yX7_kernelOf (.code yX7_kernelOf cX7_kernelOf 8 (some .int) :: gw_all) (rmk 0 0) (cPre E ρ [.int a, .int c0]) (cI E (fun r ρ1 => ρ = ρ1 ∧ r = KER a c0)) 0 0 (hA E) := by
  refine ent (own := RX7) (by decide) rfl (Nat.le_of_ble_eq_true rfl) ?_
  intro p e s m below meth c ls B hr hlk hl hP hS
  have hx := B.1.1
  have hb := B.1.2.1
  have hown := B.1.2.2.2.1
  have hts := B.1.2.2.2.2
  have hl : lv_has ls 8 [(0, .int a), (1, .int c0)] := hl
  refine lv_iload_n hx hb dX7_kernelOf_0 rfl (lv_at hl 0 rfl) ?_
  refine lv_bipush (v := 31) hx hb dX7_kernelOf_1 (by decide) ?_
  refine lv_iand hx hb dX7_kernelOf_3 ?_
  refine lv_iload_n hx hb dX7_kernelOf_4 rfl (lv_at hl 1 rfl) ?_
  refine lv_bipush (v := 31) hx hb dX7_kernelOf_5 (by decide) ?_
  refine lv_iand hx hb dX7_kernelOf_7 ?_
  refine lv_iadd hx hb dX7_kernelOf_8 ?_
  refine lv_bipush (v := 31) hx hb dX7_kernelOf_9 (by decide) ?_
  refine lv_iand hx hb dX7_kernelOf_11 ?_
  refine lv_istore_n (lv' := [(2, .int (((a &&& 31) + (c0 &&& 31)) &&& 31)), (0, .int a), (1, .int c0)]) hx hb dX7_kernelOf_12 rfl hl (by decide) rfl (fun ls hl => ?_)
  refine lv_iload_n hx hb dX7_kernelOf_13 rfl (lv_at hl 0 rfl) ?_
  refine lv_iload_n hx hb dX7_kernelOf_14 rfl (lv_at hl 1 rfl) ?_
  refine lv_iconst (v := 5) hx hb dX7_kernelOf_15 (by decide) ?_
  refine lv_ishr hx hb dX7_kernelOf_16 ?_
  refine lv_bipush (v := 31) hx hb dX7_kernelOf_17 (by decide) ?_
  refine lv_iand hx hb dX7_kernelOf_19 ?_
  refine lv_iload_n hx hb dX7_kernelOf_20 rfl (lv_at hl 2 rfl) ?_
  refine lv_bipush (v := 7) hx hb dX7_kernelOf_21 (by decide) ?_
  refine lv_ishr hx hb dX7_kernelOf_23 ?_
  refine lv_bipush (v := 31) hx hb dX7_kernelOf_24 (by decide) ?_
  refine lv_iand hx hb dX7_kernelOf_26 ?_
  refine lv_ixor hx hb dX7_kernelOf_27 ?_
  refine lv_ixor hx hb dX7_kernelOf_28 ?_
  refine lv_istore_n (lv' := [(2, .int ((((a &&& 31) + (c0 &&& 31)) &&& 31) ^^^ (((a >>> ((5 : Int32) &&& 31)) &&& 31) ^^^ ((c0 >>> ((7 : Int32) &&& 31)) &&& 31)))), (0, .int a), (1, .int c0)]) hx hb dX7_kernelOf_29 rfl hl (by decide) rfl (fun ls hl => ?_)
  refine lv_iload_n hx hb dX7_kernelOf_30 rfl (lv_at hl 1 rfl) ?_
  refine lv_bipush (v := 10) hx hb dX7_kernelOf_31 (by decide) ?_
  refine lv_ishr hx hb dX7_kernelOf_33 ?_
  refine lv_sipush (v := 511) hx hb dX7_kernelOf_34 (by decide) ?_
  refine lv_iand hx hb dX7_kernelOf_37 ?_
  refine lv_iload_n hx hb dX7_kernelOf_38 rfl (lv_at hl 2 rfl) ?_
  refine lv_iconst (v := 5) hx hb dX7_kernelOf_39 (by decide) ?_
  refine lv_ishr hx hb dX7_kernelOf_40 ?_
  refine lv_sipush (v := 511) hx hb dX7_kernelOf_41 (by decide) ?_
  refine lv_iand hx hb dX7_kernelOf_44 ?_
  refine lv_ixor hx hb dX7_kernelOf_45 ?_
  refine lv_istore_n (lv' := [(3, .int (((a >>> ((10 : Int32) &&& 31)) &&& 511) ^^^ ((c0 >>> ((5 : Int32) &&& 31)) &&& 511))), (2, .int ((((a &&& 31) + (c0 &&& 31)) &&& 31) ^^^ (((a >>> ((5 : Int32) &&& 31)) &&& 31) ^^^ ((c0 >>> ((7 : Int32) &&& 31)) &&& 31)))), (0, .int a), (1, .int c0)]) hx hb dX7_kernelOf_46 rfl hl (by decide) rfl (fun ls hl => ?_)
  refine lv_iconst (v := 0) hx hb dX7_kernelOf_47 (by decide) ?_
  refine lv_istore (lv' := [(4, .int 0), (3, .int (((a >>> ((10 : Int32) &&& 31)) &&& 511) ^^^ ((c0 >>> ((5 : Int32) &&& 31)) &&& 511))), (2, .int ((((a &&& 31) + (c0 &&& 31)) &&& 31) ^^^ (((a >>> ((5 : Int32) &&& 31)) &&& 31) ^^^ ((c0 >>> ((7 : Int32) &&& 31)) &&& 31)))), (0, .int a), (1, .int c0)]) hx hb dX7_kernelOf_48 hl (by decide) rfl (fun ls hl => ?_)
  have L : ∀ (d k : Nat) (z : Int32) (H : Heap) (locs : List Loc) (ls : Array Slot), k ≤ 9 → 9 - k < d → z = hzM (kP a c0) k (kZM a c0) → WP E ρ H → va_S (hA E) s.heap H locs → lv_has ls 8 [(0, .int a), (1, .int c0), (2, .int z), (3, .int (kP a c0)), (4, .int (nI k))] → W p l e (rmk 0 0) s m ([.int a, .int c0] : List Value).toArray below meth c H locs 0 0 (MQ below (cI E (fun r ρ1 => ρ = ρ1 ∧ r = KER a c0)) ([.int a, .int c0] : List Value).toArray s 0 0 (hA E)) (F0 m 50 ls []) := by
    intro d
    induction d with
    | zero => intro k z H locs ls h1 h2; exact absurd h2 (by omega)
    | succ d ih =>
      intro k z H locs ls hk9 hd hz hP hS hl
      refine lv_iload hx hb dX7_kernelOf_50 (lv_at hl 4 rfl) ?_
      refine lv_bipush (v := 9) hx hb dX7_kernelOf_52 (by decide) ?_
      refine lv_icmp_ge (tgt := 134) hx hb dX7_kernelOf_54 (by decide) (fun c1 => ?_) (fun c1 => ?_)
      · skip
        have hk : k = 9 := by have := (nI_leI (a := 9) (b := k) (by decide) (by omega)).mp c1; omega
        subst hk
        refine lv_iload_n hx hb dX7_kernelOf_134 rfl (lv_at hl 2 rfl) ?_
        refine lv_iload_n hx hb dX7_kernelOf_135 rfl (lv_at hl 0 rfl) ?_
        refine lv_bipush (v := 19) hx hb dX7_kernelOf_136 (by decide) ?_
        refine lv_ishr hx hb dX7_kernelOf_138 ?_
        refine lv_bipush (v := 31) hx hb dX7_kernelOf_139 (by decide) ?_
        refine lv_iand hx hb dX7_kernelOf_141 ?_
        refine lv_iadd hx hb dX7_kernelOf_142 ?_
        refine lv_bipush (v := 13) hx hb dX7_kernelOf_143 (by decide) ?_
        refine lv_iload_n hx hb dX7_kernelOf_145 rfl (lv_at hl 1 rfl) ?_
        refine lv_iconst (v := 1) hx hb dX7_kernelOf_146 (by decide) ?_
        refine lv_iand hx hb dX7_kernelOf_147 ?_
        refine lv_imul hx hb dX7_kernelOf_148 ?_
        refine lv_iadd hx hb dX7_kernelOf_149 ?_
        refine lv_bipush (v := 23) hx hb dX7_kernelOf_150 (by decide) ?_
        refine lv_irem hx hb dX7_kernelOf_152 (by decide) ?_
        exact ret_i B hr hlk hP hS dX7_kernelOf_153 (⟨rfl, by unfold KER rem23; rw [← hz]⟩)
      · skip
        have hk : k < 9 := Nat.not_le.mp (fun z => c1 ((nI_leI (a := 9) (b := k) (by decide) (by omega)).mpr z))
        refine va_gets hx hb (B.2.2.2.2.2.2).1 hS hown (hts _ mw_1117) (fun _ h9 => h9) dX7_kernelOf_57 ?_
        refine lv_iconst (v := 2) hx hb dX7_kernelOf_60 (by decide) ?_
        refine lv_iload hx hb dX7_kernelOf_61 (lv_at hl 4 rfl) ?_
        refine lv_imul hx hb dX7_kernelOf_63 ?_
        rw [(show (2 * (nI k)) = nI (2 * k) from (by rw [show (2 : Int32) = nI 2 from rfl, pk_mul]))]
        refine va_ti hx hb (B.2.2.2.2.2.2).2 hS (vp_in_nI (by omega) (by decide)) (v := .int (q1 k)) (by rw [nI_clamp (by omega)]; rfl) dX7_kernelOf_64 ?_
        refine lv_istore (lv' := [(5, .int (q1 k)), (0, .int a), (1, .int c0), (2, .int z), (3, .int (kP a c0)), (4, .int (nI k))]) hx hb dX7_kernelOf_65 hl (by decide) rfl (fun ls hl => ?_)
        refine va_gets hx hb (B.2.2.2.2.2.2).1 hS hown (hts _ mw_1117) (fun _ h9 => h9) dX7_kernelOf_67 ?_
        refine lv_iconst (v := 2) hx hb dX7_kernelOf_70 (by decide) ?_
        refine lv_iload hx hb dX7_kernelOf_71 (lv_at hl 5 rfl) ?_
        refine lv_imul hx hb dX7_kernelOf_73 ?_
        refine lv_iconst (v := 1) hx hb dX7_kernelOf_74 (by decide) ?_
        refine lv_iadd hx hb dX7_kernelOf_75 ?_
        rw [(show ((2 * (nI k)) + 1) = nI (2 * k + 1) from (by rw [show (2 : Int32) = nI 2 from rfl, pk_mul]; exact nI_1 _))]
        refine va_ti hx hb (B.2.2.2.2.2.2).2 hS (vp_in_nI (by omega) (by decide)) (v := .int (q2 k)) (by rw [nI_clamp (by omega)]; rfl) dX7_kernelOf_76 ?_
        refine lv_istore (lv' := [(6, .int (q2 k)), (5, .int (q1 k)), (0, .int a), (1, .int c0), (2, .int z), (3, .int (kP a c0)), (4, .int (nI k))]) hx hb dX7_kernelOf_77 hl (by decide) rfl (fun ls hl => ?_)
        refine lv_iload_n hx hb dX7_kernelOf_79 rfl (lv_at hl 4 rfl) ?_
        refine lv_iload hx hb dX7_kernelOf_80 (lv_at hl 1 rfl) ?_
        refine lv_ishr hx hb dX7_kernelOf_82 ?_
        refine lv_iconst (v := 1) hx hb dX7_kernelOf_83 (by decide) ?_
        refine lv_iand hx hb dX7_kernelOf_84 ?_
        refine lv_iload_n hx hb dX7_kernelOf_85 rfl (lv_at hl 4 rfl) ?_
        refine lv_iload hx hb dX7_kernelOf_86 (lv_at hl 0 rfl) ?_
        refine lv_ishr hx hb dX7_kernelOf_88 ?_
        refine lv_iconst (v := 1) hx hb dX7_kernelOf_89 (by decide) ?_
        refine lv_iand hx hb dX7_kernelOf_90 ?_
        refine lv_icmp_eq (tgt := 98) hx hb dX7_kernelOf_91 (by decide) (fun c2 => ?_) (fun c2 => ?_)
        · skip
          refine lv_iconst (v := 0) hx hb dX7_kernelOf_98 (by decide) ?_
          refine lv_istore (lv' := [(7, .int 0), (6, .int (q2 k)), (5, .int (q1 k)), (0, .int a), (1, .int c0), (2, .int z), (3, .int (kP a c0)), (4, .int (nI k))]) hx hb dX7_kernelOf_99 hl (by decide) rfl (fun ls hl => ?_)
          refine lv_iload_n hx hb dX7_kernelOf_101 rfl (lv_at hl 6 rfl) ?_
          refine lv_iload hx hb dX7_kernelOf_102 (lv_at hl 7 rfl) ?_
          refine lv_ishr hx hb dX7_kernelOf_104 ?_
          refine lv_iconst (v := 1) hx hb dX7_kernelOf_105 (by decide) ?_
          refine lv_iand hx hb dX7_kernelOf_106 ?_
          refine lv_iconst (v := 1) hx hb dX7_kernelOf_107 (by decide) ?_
          refine lv_icmp_ne (tgt := 128) hx hb dX7_kernelOf_108 (by decide) (fun c3 => ?_) (fun c3 => ?_)
          · skip
            refine lv_iinc (v := (nI (k + 1))) (lv' := [(4, .int (nI (k + 1))), (7, .int 0), (6, .int (q2 k)), (5, .int (q1 k)), (0, .int a), (1, .int c0), (2, .int z), (3, .int (kP a c0))]) hx hb dX7_kernelOf_128 hl (k := 7) rfl (nI_1 k) (by decide) rfl (fun ls hl => ?_)
            refine lv_goto (tgt := 50) hx hb dX7_kernelOf_131 (by decide) ?_
            exact ih (k + 1) _ _ _ ls (by omega) (by omega) (by show _ = stM (kP a c0) k (hzM (kP a c0) k (kZM a c0)); rw [← hz]; exact (if_neg (fun q => q.1 c2)).symm) hP hS (lv_sub hl [4, 5, 6, 7, 0] rfl)
          · skip
            refine lv_iload hx hb dX7_kernelOf_111 (lv_at hl 0 rfl) ?_
            refine lv_if_eq (tgt := 128) hx hb dX7_kernelOf_113 (by decide) (fun _ => ?_) (fun c4 => absurd c4 (by decide))
            refine lv_iinc (v := (nI (k + 1))) (lv' := [(4, .int (nI (k + 1))), (7, .int 0), (6, .int (q2 k)), (5, .int (q1 k)), (0, .int a), (1, .int c0), (2, .int z), (3, .int (kP a c0))]) hx hb dX7_kernelOf_128 hl (k := 7) rfl (nI_1 k) (by decide) rfl (fun ls hl => ?_)
            refine lv_goto (tgt := 50) hx hb dX7_kernelOf_131 (by decide) ?_
            exact ih (k + 1) _ _ _ ls (by omega) (by omega) (by show _ = stM (kP a c0) k (hzM (kP a c0) k (kZM a c0)); rw [← hz]; exact (if_neg (fun q => q.1 c2)).symm) hP hS (lv_sub hl [4, 5, 6, 7, 0] rfl)
        · skip
          refine lv_iconst (v := 1) hx hb dX7_kernelOf_94 (by decide) ?_
          refine lv_goto (tgt := 99) hx hb dX7_kernelOf_95 (by decide) ?_
          refine lv_istore (lv' := [(7, .int 1), (6, .int (q2 k)), (5, .int (q1 k)), (0, .int a), (1, .int c0), (2, .int z), (3, .int (kP a c0)), (4, .int (nI k))]) hx hb dX7_kernelOf_99 hl (by decide) rfl (fun ls hl => ?_)
          refine lv_iload_n hx hb dX7_kernelOf_101 rfl (lv_at hl 6 rfl) ?_
          refine lv_iload hx hb dX7_kernelOf_102 (lv_at hl 7 rfl) ?_
          refine lv_ishr hx hb dX7_kernelOf_104 ?_
          refine lv_iconst (v := 1) hx hb dX7_kernelOf_105 (by decide) ?_
          refine lv_iand hx hb dX7_kernelOf_106 ?_
          refine lv_iconst (v := 1) hx hb dX7_kernelOf_107 (by decide) ?_
          refine lv_icmp_ne (tgt := 128) hx hb dX7_kernelOf_108 (by decide) (fun c5 => ?_) (fun c5 => ?_)
          · skip
            refine lv_iinc (v := (nI (k + 1))) (lv' := [(4, .int (nI (k + 1))), (7, .int 1), (6, .int (q2 k)), (5, .int (q1 k)), (0, .int a), (1, .int c0), (2, .int z), (3, .int (kP a c0))]) hx hb dX7_kernelOf_128 hl (k := 7) rfl (nI_1 k) (by decide) rfl (fun ls hl => ?_)
            refine lv_goto (tgt := 50) hx hb dX7_kernelOf_131 (by decide) ?_
            exact ih (k + 1) _ _ _ ls (by omega) (by omega) (by show _ = stM (kP a c0) k (hzM (kP a c0) k (kZM a c0)); rw [← hz]; exact (if_neg (fun q => c5 q.2)).symm) hP hS (lv_sub hl [4, 5, 6, 7, 0] rfl)
          · skip
            refine lv_iload hx hb dX7_kernelOf_111 (lv_at hl 0 rfl) ?_
            refine lv_if_eq (tgt := 128) hx hb dX7_kernelOf_113 (by decide) (fun c6 => absurd c6 (by decide)) (fun _ => ?_)
            refine lv_iload_n hx hb dX7_kernelOf_116 rfl (lv_at hl 5 rfl) ?_
            refine lv_iconst (v := 1) hx hb dX7_kernelOf_117 (by decide) ?_
            refine lv_iload hx hb dX7_kernelOf_118 (lv_at hl 2 rfl) ?_
            refine lv_ishl hx hb dX7_kernelOf_120 ?_
            refine lv_iconst (v := 1) hx hb dX7_kernelOf_121 (by decide) ?_
            refine lv_iload hx hb dX7_kernelOf_122 (lv_at hl 1 rfl) ?_
            refine lv_ishl hx hb dX7_kernelOf_124 ?_
            refine lv_ior hx hb dX7_kernelOf_125 ?_
            refine lv_ixor hx hb dX7_kernelOf_126 ?_
            refine lv_istore_n (lv' := [(2, .int (z ^^^ ((1 <<< (((q1 k) : Int32) &&& 31)) ||| (1 <<< (((q2 k) : Int32) &&& 31))))), (7, .int 1), (6, .int (q2 k)), (5, .int (q1 k)), (0, .int a), (1, .int c0), (3, .int (kP a c0)), (4, .int (nI k))]) hx hb dX7_kernelOf_127 rfl hl (by decide) rfl (fun ls hl => ?_)
            refine lv_iinc (v := (nI (k + 1))) (lv' := [(4, .int (nI (k + 1))), (2, .int (z ^^^ ((1 <<< (((q1 k) : Int32) &&& 31)) ||| (1 <<< (((q2 k) : Int32) &&& 31))))), (7, .int 1), (6, .int (q2 k)), (5, .int (q1 k)), (0, .int a), (1, .int c0), (3, .int (kP a c0))]) hx hb dX7_kernelOf_128 hl (k := 7) rfl (nI_1 k) (by decide) rfl (fun ls hl => ?_)
            refine lv_goto (tgt := 50) hx hb dX7_kernelOf_131 (by decide) ?_
            exact ih (k + 1) _ _ _ ls (by omega) (by omega) (by show _ = stM (kP a c0) k (hzM (kP a c0) k (kZM a c0)); rw [← hz]; exact (if_pos ⟨c2, c5⟩).symm) hP hS (lv_sub hl [5, 6, 1, 7, 0] rfl)
  exact L 10 0 _ _ _ ls (by omega) (by omega) rfl hP hS (lv_sub hl [3, 4, 2, 1, 0] rfl)

set_option maxHeartbeats 4000000 in
set_option maxRecDepth 100000 in
theorem c_bits (l : Launch) (E : hE) (ρ : Nat → Nat → Int32) (X : Nat) (hX : X < 8388608) : Met l yX7_bits (.code yX7_bits cX7_bits 3 (some .int) :: gw_all) (rmk 0 0) (cPre E ρ [.int (nI X)]) (cI E (fun r ρ1 => ρ = ρ1 ∧ r = nI (pcc X))) 0 0 (hA E) := by
  refine ent (own := RX7) (by decide) rfl (Nat.le_of_ble_eq_true rfl) ?_
  intro p e s m below meth c ls B hr hlk hl hP hS
  have hx := B.1.1
  have hb := B.1.2.1
  have hown := B.1.2.2.2.1
  have hts := B.1.2.2.2.2
  have hl : lv_has ls 3 [(0, .int (nI X))] := hl
  refine lv_iconst (v := 0) hx hb dX7_bits_0 (by decide) ?_
  refine lv_istore_n (lv' := [(1, .int 0), (0, .int (nI X))]) hx hb dX7_bits_1 rfl hl (by decide) rfl (fun ls hl => ?_)
  refine lv_iload_n hx hb dX7_bits_2 rfl (lv_at hl 1 rfl) ?_
  refine lv_istore_n (lv' := [(2, .int (nI X)), (1, .int 0), (0, .int (nI X))]) hx hb dX7_bits_3 rfl hl (by decide) rfl (fun ls hl => ?_)
  have L : ∀ (d S n : Nat) (H : Heap) (locs : List Loc) (ls : Array Slot), S < d → S < 8388608 → n + pcc S = pcc X → WP E ρ H → va_S (hA E) s.heap H locs → lv_has ls 3 [(0, .int (nI X)), (1, .int (nI n)), (2, .int (nI S))] → W p l e (rmk 0 0) s m ([.int (nI X)] : List Value).toArray below meth c H locs 0 0 (MQ below (cI E (fun r ρ1 => ρ = ρ1 ∧ r = nI (pcc X))) ([.int (nI X)] : List Value).toArray s 0 0 (hA E)) (F0 m 4 ls []) := by
    intro d
    induction d with
    | zero => intro S n H locs ls h1; exact absurd h1 (by omega)
    | succ d ih =>
      intro S n H locs ls hd hS8 hn hP hS hl
      refine lv_iload_n hx hb dX7_bits_4 rfl (lv_at hl 2 rfl) ?_
      refine lv_if_eq (tgt := 20) hx hb dX7_bits_5 (by decide) (fun c1 => ?_) (fun c1 => ?_)
      · skip
        have h0 : S = 0 := (nI_eq (b := 0) (by omega) (by decide)).mp c1
        subst h0
        refine lv_iload_n hx hb dX7_bits_20 rfl (lv_at hl 1 rfl) ?_
        exact ret_i B hr hlk hP hS dX7_bits_21 (⟨rfl, by rw [← hn, pcc_0, Nat.add_zero]⟩)
      · skip
        have h0 : 0 < S := Nat.pos_of_ne_zero (fun z => c1 (by rw [z]; rfl))
        have hk := kpc h0 hS8
        refine lv_iinc (v := (nI (n + 1))) (lv' := [(1, .int (nI (n + 1))), (0, .int (nI X)), (2, .int (nI S))]) hx hb dX7_bits_8 hl (k := 1) rfl (nI_1 n) (by decide) rfl (fun ls hl => ?_)
        refine lv_iload_n hx hb dX7_bits_11 rfl (lv_at hl 2 rfl) ?_
        refine lv_iload_n hx hb dX7_bits_12 rfl (lv_at hl 2 rfl) ?_
        refine lv_iconst (v := 1) hx hb dX7_bits_13 (by decide) ?_
        refine lv_isub hx hb dX7_bits_14 ?_
        refine lv_iand hx hb dX7_bits_15 ?_
        refine lv_topi (fun z2 ez2 => ?_)
        obtain rfl : z2 = nI (S &&& (S - 1)) := ez2.trans (kz_and h0)
        refine lv_istore_n (lv' := [(2, .int (nI (S &&& (S - 1)))), (1, .int (nI (n + 1))), (0, .int (nI X))]) hx hb dX7_bits_16 rfl hl (by decide) rfl (fun ls hl => ?_)
        refine lv_goto (tgt := 4) hx hb dX7_bits_17 (by decide) ?_
        exact ih _ (n + 1) _ _ ls (by omega) (by omega) (by omega) hP hS (lv_sub hl [2, 1, 0] rfl)
  exact L (X + 1) X 0 _ _ ls (by omega) hX (by omega) hP hS (lv_sub hl [2, 1, 0] rfl)
