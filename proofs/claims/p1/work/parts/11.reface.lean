theorem dX7_radio_0 : decode cX7_radio 0 = .ok (.aload_n 0, 1) := by decide +kernel
theorem dX7_radio_1 : decode cX7_radio 1 = .ok (.iconst 0, 1) := by decide +kernel
theorem dX7_radio_2 : decode cX7_radio 2 = .ok (.putfield 50, 3) := by decide +kernel
theorem dX7_radio_5 : decode cX7_radio 5 = .ok (.iload_n 1, 1) := by decide +kernel
theorem dX7_radio_6 : decode cX7_radio 6 = .ok (.i2l, 1) := by decide +kernel
theorem dX7_radio_7 : decode cX7_radio 7 = .ok (.lconst 0, 1) := by decide +kernel
theorem dX7_radio_8 : decode cX7_radio 8 = .ok (.ldc2_w 102, 3) := by decide +kernel
theorem dX7_radio_11 : decode cX7_radio 11 = .ok (.invokestatic 71, 3) := by decide +kernel
theorem dX7_radio_14 : decode cX7_radio 14 = .ok (.ifCond .ne 9, 3) := by decide +kernel
theorem dX7_radio_17 : decode cX7_radio 17 = .ok (.aload_n 0, 1) := by decide +kernel
theorem dX7_radio_18 : decode cX7_radio 18 = .ok (.iconst (-1), 1) := by decide +kernel
theorem dX7_radio_19 : decode cX7_radio 19 = .ok (.invokevirtual 64, 3) := by decide +kernel
theorem dX7_radio_22 : decode cX7_radio 22 = .ok (.ireturn, 1) := by decide +kernel
theorem dX7_radio_23 : decode cX7_radio 23 = .ok (.aload_n 0, 1) := by decide +kernel
theorem dX7_radio_24 : decode cX7_radio 24 = .ok (.getfield 13, 3) := by decide +kernel
theorem dX7_radio_27 : decode cX7_radio 27 = .ok (.iconst 0, 1) := by decide +kernel
theorem dX7_radio_28 : decode cX7_radio 28 = .ok (.iaload, 1) := by decide +kernel
theorem dX7_radio_29 : decode cX7_radio 29 = .ok (.istore_n 2, 1) := by decide +kernel
theorem dX7_radio_30 : decode cX7_radio 30 = .ok (.iload_n 2, 1) := by decide +kernel
theorem dX7_radio_31 : decode cX7_radio 31 = .ok (.bipush 6, 2) := by decide +kernel
theorem dX7_radio_33 : decode cX7_radio 33 = .ok (.if_icmp .ne 10, 3) := by decide +kernel
theorem dX7_radio_36 : decode cX7_radio 36 = .ok (.aload_n 0, 1) := by decide +kernel
theorem dX7_radio_37 : decode cX7_radio 37 = .ok (.bipush (-5), 2) := by decide +kernel
theorem dX7_radio_39 : decode cX7_radio 39 = .ok (.invokevirtual 64, 3) := by decide +kernel
theorem dX7_radio_42 : decode cX7_radio 42 = .ok (.ireturn, 1) := by decide +kernel
theorem dX7_radio_43 : decode cX7_radio 43 = .ok (.aload_n 0, 1) := by decide +kernel
theorem dX7_radio_44 : decode cX7_radio 44 = .ok (.iconst 0, 1) := by decide +kernel
theorem dX7_radio_45 : decode cX7_radio 45 = .ok (.invokevirtual 118, 3) := by decide +kernel
theorem dX7_radio_48 : decode cX7_radio 48 = .ok (.aload_n 0, 1) := by decide +kernel
theorem dX7_radio_49 : decode cX7_radio 49 = .ok (.getfield 13, 3) := by decide +kernel
theorem dX7_radio_52 : decode cX7_radio 52 = .ok (.iconst 1, 1) := by decide +kernel
theorem dX7_radio_53 : decode cX7_radio 53 = .ok (.iload_n 2, 1) := by decide +kernel
theorem dX7_radio_54 : decode cX7_radio 54 = .ok (.iadd, 1) := by decide +kernel
theorem dX7_radio_55 : decode cX7_radio 55 = .ok (.iload_n 1, 1) := by decide +kernel
theorem dX7_radio_56 : decode cX7_radio 56 = .ok (.iastore, 1) := by decide +kernel
theorem dX7_radio_57 : decode cX7_radio 57 = .ok (.aload_n 0, 1) := by decide +kernel
theorem dX7_radio_58 : decode cX7_radio 58 = .ok (.getfield 13, 3) := by decide +kernel
theorem dX7_radio_61 : decode cX7_radio 61 = .ok (.iconst 0, 1) := by decide +kernel
theorem dX7_radio_62 : decode cX7_radio 62 = .ok (.dup2, 1) := by decide +kernel
theorem dX7_radio_63 : decode cX7_radio 63 = .ok (.iaload, 1) := by decide +kernel
theorem dX7_radio_64 : decode cX7_radio 64 = .ok (.iconst 1, 1) := by decide +kernel
theorem dX7_radio_65 : decode cX7_radio 65 = .ok (.iadd, 1) := by decide +kernel
theorem dX7_radio_66 : decode cX7_radio 66 = .ok (.iastore, 1) := by decide +kernel
theorem dX7_radio_67 : decode cX7_radio 67 = .ok (.aload_n 0, 1) := by decide +kernel
theorem dX7_radio_68 : decode cX7_radio 68 = .ok (.iload_n 2, 1) := by decide +kernel
theorem dX7_radio_69 : decode cX7_radio 69 = .ok (.invokevirtual 68, 3) := by decide +kernel
theorem dX7_radio_72 : decode cX7_radio 72 = .ok (.ireturn, 1) := by decide +kernel
theorem dX7_net_0 : decode cX7_net 0 = .ok (.aload_n 0, 1) := by decide +kernel
theorem dX7_net_1 : decode cX7_net 1 = .ok (.iconst 0, 1) := by decide +kernel
theorem dX7_net_2 : decode cX7_net 2 = .ok (.putfield 50, 3) := by decide +kernel
theorem dX7_net_5 : decode cX7_net 5 = .ok (.iload_n 1, 1) := by decide +kernel
theorem dX7_net_6 : decode cX7_net 6 = .ok (.i2l, 1) := by decide +kernel
theorem dX7_net_7 : decode cX7_net 7 = .ok (.lconst 0, 1) := by decide +kernel
theorem dX7_net_8 : decode cX7_net 8 = .ok (.lconst 1, 1) := by decide +kernel
theorem dX7_net_9 : decode cX7_net 9 = .ok (.invokestatic 71, 3) := by decide +kernel
theorem dX7_net_12 : decode cX7_net 12 = .ok (.ifCond .eq 15, 3) := by decide +kernel
theorem dX7_net_15 : decode cX7_net 15 = .ok (.iload_n 3, 1) := by decide +kernel
theorem dX7_net_16 : decode cX7_net 16 = .ok (.i2l, 1) := by decide +kernel
theorem dX7_net_17 : decode cX7_net 17 = .ok (.lconst 0, 1) := by decide +kernel
theorem dX7_net_18 : decode cX7_net 18 = .ok (.ldc2_w 122, 3) := by decide +kernel
theorem dX7_net_21 : decode cX7_net 21 = .ok (.invokestatic 71, 3) := by decide +kernel
theorem dX7_net_24 : decode cX7_net 24 = .ok (.ifCond .ne 9, 3) := by decide +kernel
theorem dX7_net_27 : decode cX7_net 27 = .ok (.aload_n 0, 1) := by decide +kernel
theorem dX7_net_28 : decode cX7_net 28 = .ok (.iconst (-1), 1) := by decide +kernel
theorem dX7_net_29 : decode cX7_net 29 = .ok (.invokevirtual 64, 3) := by decide +kernel
theorem dX7_net_32 : decode cX7_net 32 = .ok (.ireturn, 1) := by decide +kernel
theorem dX7_net_33 : decode cX7_net 33 = .ok (.aload_n 0, 1) := by decide +kernel
theorem dX7_net_34 : decode cX7_net 34 = .ok (.iload_n 2, 1) := by decide +kernel
theorem dX7_net_35 : decode cX7_net 35 = .ok (.invokevirtual 124, 3) := by decide +kernel
theorem dX7_net_38 : decode cX7_net 38 = .ok (.ifCond .ne 10, 3) := by decide +kernel
theorem dX7_net_41 : decode cX7_net 41 = .ok (.aload_n 0, 1) := by decide +kernel
theorem dX7_net_42 : decode cX7_net 42 = .ok (.bipush (-2), 2) := by decide +kernel
theorem dX7_net_44 : decode cX7_net 44 = .ok (.invokevirtual 64, 3) := by decide +kernel
theorem dX7_net_47 : decode cX7_net 47 = .ok (.ireturn, 1) := by decide +kernel
theorem dX7_net_48 : decode cX7_net 48 = .ok (.aload_n 0, 1) := by decide +kernel
theorem dX7_net_49 : decode cX7_net 49 = .ok (.iload_n 1, 1) := by decide +kernel
theorem dX7_net_50 : decode cX7_net 50 = .ok (.invokevirtual 78, 3) := by decide +kernel
theorem dX7_net_53 : decode cX7_net 53 = .ok (.ifCond .ne 18, 3) := by decide +kernel
theorem dX7_net_56 : decode cX7_net 56 = .ok (.aload_n 0, 1) := by decide +kernel
theorem dX7_net_57 : decode cX7_net 57 = .ok (.getfield 13, 3) := by decide +kernel
theorem dX7_net_60 : decode cX7_net 60 = .ok (.iconst 1, 1) := by decide +kernel
theorem dX7_net_61 : decode cX7_net 61 = .ok (.iload_n 1, 1) := by decide +kernel
theorem dX7_net_62 : decode cX7_net 62 = .ok (.isub, 1) := by decide +kernel
theorem dX7_net_63 : decode cX7_net 63 = .ok (.invokestatic 75, 3) := by decide +kernel
theorem dX7_net_66 : decode cX7_net 66 = .ok (.iaload, 1) := by decide +kernel
theorem dX7_net_67 : decode cX7_net 67 = .ok (.iload_n 2, 1) := by decide +kernel
theorem dX7_net_68 : decode cX7_net 68 = .ok (.if_icmp .ne 10, 3) := by decide +kernel
theorem dX7_net_71 : decode cX7_net 71 = .ok (.aload_n 0, 1) := by decide +kernel
theorem dX7_net_72 : decode cX7_net 72 = .ok (.bipush (-4), 2) := by decide +kernel
theorem dX7_net_74 : decode cX7_net 74 = .ok (.invokevirtual 64, 3) := by decide +kernel
theorem dX7_net_77 : decode cX7_net 77 = .ok (.ireturn, 1) := by decide +kernel
theorem dX7_net_78 : decode cX7_net 78 = .ok (.aload_n 0, 1) := by decide +kernel
theorem dX7_net_79 : decode cX7_net 79 = .ok (.iconst 1, 1) := by decide +kernel
theorem dX7_net_80 : decode cX7_net 80 = .ok (.invokevirtual 118, 3) := by decide +kernel
theorem dX7_net_83 : decode cX7_net 83 = .ok (.iload_n 1, 1) := by decide +kernel
theorem dX7_net_84 : decode cX7_net 84 = .ok (.invokestatic 75, 3) := by decide +kernel
theorem dX7_net_87 : decode cX7_net 87 = .ok (.istore 4, 2) := by decide +kernel
theorem dX7_net_89 : decode cX7_net 89 = .ok (.iconst 0, 1) := by decide +kernel
theorem dX7_net_90 : decode cX7_net 90 = .ok (.istore 5, 2) := by decide +kernel
theorem dX7_net_92 : decode cX7_net 92 = .ok (.iload 5, 2) := by decide +kernel
theorem dX7_net_94 : decode cX7_net 94 = .ok (.sipush 326, 3) := by decide +kernel
theorem dX7_net_97 : decode cX7_net 97 = .ok (.if_icmp .ge 20, 3) := by decide +kernel
theorem dX7_net_100 : decode cX7_net 100 = .ok (.aload_n 0, 1) := by decide +kernel
theorem dX7_net_101 : decode cX7_net 101 = .ok (.getfield 13, 3) := by decide +kernel
theorem dX7_net_104 : decode cX7_net 104 = .ok (.iload 4, 2) := by decide +kernel
theorem dX7_net_106 : decode cX7_net 106 = .ok (.iload 5, 2) := by decide +kernel
theorem dX7_net_108 : decode cX7_net 108 = .ok (.iadd, 1) := by decide +kernel
theorem dX7_net_109 : decode cX7_net 109 = .ok (.iconst 0, 1) := by decide +kernel
theorem dX7_net_110 : decode cX7_net 110 = .ok (.iastore, 1) := by decide +kernel
theorem dX7_net_111 : decode cX7_net 111 = .ok (.iinc 5 1, 3) := by decide +kernel
theorem dX7_net_114 : decode cX7_net 114 = .ok (.goto (-22), 3) := by decide +kernel
theorem dX7_net_117 : decode cX7_net 117 = .ok (.aload_n 0, 1) := by decide +kernel
theorem dX7_net_118 : decode cX7_net 118 = .ok (.getfield 13, 3) := by decide +kernel
theorem dX7_net_121 : decode cX7_net 121 = .ok (.iload 4, 2) := by decide +kernel
theorem dX7_net_123 : decode cX7_net 123 = .ok (.iload_n 2, 1) := by decide +kernel
theorem dX7_net_124 : decode cX7_net 124 = .ok (.iastore, 1) := by decide +kernel
theorem dX7_net_125 : decode cX7_net 125 = .ok (.aload_n 0, 1) := by decide +kernel
theorem dX7_net_126 : decode cX7_net 126 = .ok (.getfield 13, 3) := by decide +kernel
theorem dX7_net_129 : decode cX7_net 129 = .ok (.iload 4, 2) := by decide +kernel
theorem dX7_net_131 : decode cX7_net 131 = .ok (.iconst 1, 1) := by decide +kernel
theorem dX7_net_132 : decode cX7_net 132 = .ok (.iadd, 1) := by decide +kernel
theorem dX7_net_133 : decode cX7_net 133 = .ok (.iload_n 3, 1) := by decide +kernel
theorem dX7_net_134 : decode cX7_net 134 = .ok (.iastore, 1) := by decide +kernel
theorem dX7_net_135 : decode cX7_net 135 = .ok (.aload_n 0, 1) := by decide +kernel
theorem dX7_net_136 : decode cX7_net 136 = .ok (.getfield 13, 3) := by decide +kernel
theorem dX7_net_139 : decode cX7_net 139 = .ok (.iload 4, 2) := by decide +kernel
theorem dX7_net_141 : decode cX7_net 141 = .ok (.iconst 2, 1) := by decide +kernel
theorem dX7_net_142 : decode cX7_net 142 = .ok (.iadd, 1) := by decide +kernel
theorem dX7_net_143 : decode cX7_net 143 = .ok (.ldc 127, 2) := by decide +kernel
theorem dX7_net_145 : decode cX7_net 145 = .ok (.iastore, 1) := by decide +kernel
theorem dX7_net_146 : decode cX7_net 146 = .ok (.aload_n 0, 1) := by decide +kernel
theorem dX7_net_147 : decode cX7_net 147 = .ok (.getfield 13, 3) := by decide +kernel
theorem dX7_net_150 : decode cX7_net 150 = .ok (.iload 4, 2) := by decide +kernel
theorem dX7_net_152 : decode cX7_net 152 = .ok (.bipush 7, 2) := by decide +kernel
theorem dX7_net_154 : decode cX7_net 154 = .ok (.iadd, 1) := by decide +kernel
theorem dX7_net_155 : decode cX7_net 155 = .ok (.ldc 127, 2) := by decide +kernel
theorem dX7_net_157 : decode cX7_net 157 = .ok (.iastore, 1) := by decide +kernel
theorem dX7_net_158 : decode cX7_net 158 = .ok (.aload_n 0, 1) := by decide +kernel
theorem dX7_net_159 : decode cX7_net 159 = .ok (.getfield 13, 3) := by decide +kernel
theorem dX7_net_162 : decode cX7_net 162 = .ok (.iload 4, 2) := by decide +kernel
theorem dX7_net_164 : decode cX7_net 164 = .ok (.iconst 5, 1) := by decide +kernel
theorem dX7_net_165 : decode cX7_net 165 = .ok (.iadd, 1) := by decide +kernel
theorem dX7_net_166 : decode cX7_net 166 = .ok (.iconst (-1), 1) := by decide +kernel
theorem dX7_net_167 : decode cX7_net 167 = .ok (.iastore, 1) := by decide +kernel
theorem dX7_net_168 : decode cX7_net 168 = .ok (.aload_n 0, 1) := by decide +kernel
theorem dX7_net_169 : decode cX7_net 169 = .ok (.iconst 0, 1) := by decide +kernel
theorem dX7_net_170 : decode cX7_net 170 = .ok (.invokevirtual 68, 3) := by decide +kernel
theorem dX7_net_173 : decode cX7_net 173 = .ok (.ireturn, 1) := by decide +kernel
theorem dX7_join_0 : decode cX7_join 0 = .ok (.aload_n 0, 1) := by decide +kernel
theorem dX7_join_1 : decode cX7_join 1 = .ok (.iconst 0, 1) := by decide +kernel
theorem dX7_join_2 : decode cX7_join 2 = .ok (.putfield 50, 3) := by decide +kernel
theorem dX7_join_5 : decode cX7_join 5 = .ok (.aload_n 0, 1) := by decide +kernel
theorem dX7_join_6 : decode cX7_join 6 = .ok (.iload_n 1, 1) := by decide +kernel
theorem dX7_join_7 : decode cX7_join 7 = .ok (.invokevirtual 78, 3) := by decide +kernel
theorem dX7_join_10 : decode cX7_join 10 = .ok (.ifCond .eq 11, 3) := by decide +kernel
theorem dX7_join_13 : decode cX7_join 13 = .ok (.aload_n 0, 1) := by decide +kernel
theorem dX7_join_14 : decode cX7_join 14 = .ok (.iload_n 2, 1) := by decide +kernel
theorem dX7_join_15 : decode cX7_join 15 = .ok (.invokevirtual 124, 3) := by decide +kernel
theorem dX7_join_18 : decode cX7_join 18 = .ok (.ifCond .ne 10, 3) := by decide +kernel
theorem dX7_join_21 : decode cX7_join 21 = .ok (.aload_n 0, 1) := by decide +kernel
theorem dX7_join_22 : decode cX7_join 22 = .ok (.bipush (-2), 2) := by decide +kernel
theorem dX7_join_24 : decode cX7_join 24 = .ok (.invokevirtual 64, 3) := by decide +kernel
theorem dX7_join_27 : decode cX7_join 27 = .ok (.ireturn, 1) := by decide +kernel
theorem dX7_join_28 : decode cX7_join 28 = .ok (.aload_n 0, 1) := by decide +kernel
theorem dX7_join_29 : decode cX7_join 29 = .ok (.iload_n 1, 1) := by decide +kernel
theorem dX7_join_30 : decode cX7_join 30 = .ok (.iload_n 2, 1) := by decide +kernel
theorem dX7_join_31 : decode cX7_join 31 = .ok (.invokevirtual 86, 3) := by decide +kernel
theorem dX7_join_34 : decode cX7_join 34 = .ok (.ifCond .eq 10, 3) := by decide +kernel
theorem dX7_join_37 : decode cX7_join 37 = .ok (.aload_n 0, 1) := by decide +kernel
theorem dX7_join_38 : decode cX7_join 38 = .ok (.bipush (-4), 2) := by decide +kernel
theorem dX7_join_40 : decode cX7_join 40 = .ok (.invokevirtual 64, 3) := by decide +kernel
theorem dX7_join_43 : decode cX7_join 43 = .ok (.ireturn, 1) := by decide +kernel
theorem dX7_join_44 : decode cX7_join 44 = .ok (.iload_n 1, 1) := by decide +kernel
theorem dX7_join_45 : decode cX7_join 45 = .ok (.invokestatic 75, 3) := by decide +kernel
theorem dX7_join_48 : decode cX7_join 48 = .ok (.istore_n 3, 1) := by decide +kernel
theorem dX7_join_49 : decode cX7_join 49 = .ok (.aload_n 0, 1) := by decide +kernel
theorem dX7_join_50 : decode cX7_join 50 = .ok (.getfield 13, 3) := by decide +kernel
theorem dX7_join_53 : decode cX7_join 53 = .ok (.iload_n 3, 1) := by decide +kernel
theorem dX7_join_54 : decode cX7_join 54 = .ok (.bipush 6, 2) := by decide +kernel
theorem dX7_join_56 : decode cX7_join 56 = .ok (.iadd, 1) := by decide +kernel
theorem dX7_join_57 : decode cX7_join 57 = .ok (.iaload, 1) := by decide +kernel
theorem dX7_join_58 : decode cX7_join 58 = .ok (.istore 4, 2) := by decide +kernel
theorem dX7_join_60 : decode cX7_join 60 = .ok (.iload 4, 2) := by decide +kernel
theorem dX7_join_62 : decode cX7_join 62 = .ok (.iconst 4, 1) := by decide +kernel
theorem dX7_join_63 : decode cX7_join 63 = .ok (.if_icmp .ne 10, 3) := by decide +kernel
theorem dX7_join_66 : decode cX7_join 66 = .ok (.aload_n 0, 1) := by decide +kernel
theorem dX7_join_67 : decode cX7_join 67 = .ok (.bipush (-5), 2) := by decide +kernel
theorem dX7_join_69 : decode cX7_join 69 = .ok (.invokevirtual 64, 3) := by decide +kernel
theorem dX7_join_72 : decode cX7_join 72 = .ok (.ireturn, 1) := by decide +kernel
theorem dX7_join_73 : decode cX7_join 73 = .ok (.aload_n 0, 1) := by decide +kernel
theorem dX7_join_74 : decode cX7_join 74 = .ok (.iconst 2, 1) := by decide +kernel
theorem dX7_join_75 : decode cX7_join 75 = .ok (.invokevirtual 118, 3) := by decide +kernel
theorem dX7_join_78 : decode cX7_join 78 = .ok (.iload_n 1, 1) := by decide +kernel
theorem dX7_join_79 : decode cX7_join 79 = .ok (.iload 4, 2) := by decide +kernel
theorem dX7_join_81 : decode cX7_join 81 = .ok (.invokestatic 82, 3) := by decide +kernel
theorem dX7_join_84 : decode cX7_join 84 = .ok (.istore 5, 2) := by decide +kernel
theorem dX7_join_86 : decode cX7_join 86 = .ok (.iconst 0, 1) := by decide +kernel
theorem dX7_join_87 : decode cX7_join 87 = .ok (.istore 6, 2) := by decide +kernel
theorem dX7_join_89 : decode cX7_join 89 = .ok (.iload 6, 2) := by decide +kernel
theorem dX7_join_91 : decode cX7_join 91 = .ok (.bipush 66, 2) := by decide +kernel
theorem dX7_join_93 : decode cX7_join 93 = .ok (.if_icmp .ge 20, 3) := by decide +kernel
theorem dX7_join_96 : decode cX7_join 96 = .ok (.aload_n 0, 1) := by decide +kernel
theorem dX7_join_97 : decode cX7_join 97 = .ok (.getfield 13, 3) := by decide +kernel
theorem dX7_join_100 : decode cX7_join 100 = .ok (.iload 5, 2) := by decide +kernel
theorem dX7_join_102 : decode cX7_join 102 = .ok (.iload 6, 2) := by decide +kernel
theorem dX7_join_104 : decode cX7_join 104 = .ok (.iadd, 1) := by decide +kernel
theorem dX7_join_105 : decode cX7_join 105 = .ok (.iconst 0, 1) := by decide +kernel
theorem dX7_join_106 : decode cX7_join 106 = .ok (.iastore, 1) := by decide +kernel
theorem dX7_join_107 : decode cX7_join 107 = .ok (.iinc 6 1, 3) := by decide +kernel
theorem dX7_join_110 : decode cX7_join 110 = .ok (.goto (-21), 3) := by decide +kernel
theorem dX7_join_113 : decode cX7_join 113 = .ok (.aload_n 0, 1) := by decide +kernel
theorem dX7_join_114 : decode cX7_join 114 = .ok (.getfield 13, 3) := by decide +kernel
theorem dX7_join_117 : decode cX7_join 117 = .ok (.iload 5, 2) := by decide +kernel
theorem dX7_join_119 : decode cX7_join 119 = .ok (.iload_n 2, 1) := by decide +kernel
theorem dX7_join_120 : decode cX7_join 120 = .ok (.iastore, 1) := by decide +kernel
theorem dX7_join_121 : decode cX7_join 121 = .ok (.aload_n 0, 1) := by decide +kernel
theorem dX7_join_122 : decode cX7_join 122 = .ok (.getfield 13, 3) := by decide +kernel
theorem dX7_join_125 : decode cX7_join 125 = .ok (.iload 5, 2) := by decide +kernel
theorem dX7_join_127 : decode cX7_join 127 = .ok (.iconst 1, 1) := by decide +kernel
theorem dX7_join_128 : decode cX7_join 128 = .ok (.iadd, 1) := by decide +kernel
theorem dX7_join_129 : decode cX7_join 129 = .ok (.aload_n 0, 1) := by decide +kernel
theorem dX7_join_130 : decode cX7_join 130 = .ok (.getfield 13, 3) := by decide +kernel
theorem dX7_join_133 : decode cX7_join 133 = .ok (.iload_n 3, 1) := by decide +kernel
theorem dX7_join_134 : decode cX7_join 134 = .ok (.iconst 2, 1) := by decide +kernel
theorem dX7_join_135 : decode cX7_join 135 = .ok (.iadd, 1) := by decide +kernel
theorem dX7_join_136 : decode cX7_join 136 = .ok (.iaload, 1) := by decide +kernel
theorem dX7_join_137 : decode cX7_join 137 = .ok (.iastore, 1) := by decide +kernel
theorem dX7_join_138 : decode cX7_join 138 = .ok (.aload_n 0, 1) := by decide +kernel
theorem dX7_join_139 : decode cX7_join 139 = .ok (.getfield 13, 3) := by decide +kernel
theorem dX7_join_142 : decode cX7_join 142 = .ok (.iload 5, 2) := by decide +kernel
theorem dX7_join_144 : decode cX7_join 144 = .ok (.iconst 2, 1) := by decide +kernel
theorem dX7_join_145 : decode cX7_join 145 = .ok (.iadd, 1) := by decide +kernel
theorem dX7_join_146 : decode cX7_join 146 = .ok (.aload_n 0, 1) := by decide +kernel
theorem dX7_join_147 : decode cX7_join 147 = .ok (.getfield 13, 3) := by decide +kernel
theorem dX7_join_150 : decode cX7_join 150 = .ok (.iload_n 3, 1) := by decide +kernel
theorem dX7_join_151 : decode cX7_join 151 = .ok (.iconst 3, 1) := by decide +kernel
theorem dX7_join_152 : decode cX7_join 152 = .ok (.iadd, 1) := by decide +kernel
theorem dX7_join_153 : decode cX7_join 153 = .ok (.iaload, 1) := by decide +kernel
theorem dX7_join_154 : decode cX7_join 154 = .ok (.iastore, 1) := by decide +kernel
theorem dX7_join_155 : decode cX7_join 155 = .ok (.aload_n 0, 1) := by decide +kernel
theorem dX7_join_156 : decode cX7_join 156 = .ok (.getfield 13, 3) := by decide +kernel
theorem dX7_join_159 : decode cX7_join 159 = .ok (.iload 5, 2) := by decide +kernel
theorem dX7_join_161 : decode cX7_join 161 = .ok (.iconst 3, 1) := by decide +kernel
theorem dX7_join_162 : decode cX7_join 162 = .ok (.iadd, 1) := by decide +kernel
theorem dX7_join_163 : decode cX7_join 163 = .ok (.aload_n 0, 1) := by decide +kernel
theorem dX7_join_164 : decode cX7_join 164 = .ok (.getfield 13, 3) := by decide +kernel
theorem dX7_join_167 : decode cX7_join 167 = .ok (.iload_n 3, 1) := by decide +kernel
theorem dX7_join_168 : decode cX7_join 168 = .ok (.iconst 4, 1) := by decide +kernel
theorem dX7_join_169 : decode cX7_join 169 = .ok (.iadd, 1) := by decide +kernel
theorem dX7_join_170 : decode cX7_join 170 = .ok (.iaload, 1) := by decide +kernel
theorem dX7_join_171 : decode cX7_join 171 = .ok (.iastore, 1) := by decide +kernel
theorem dX7_join_172 : decode cX7_join 172 = .ok (.aload_n 0, 1) := by decide +kernel
theorem dX7_join_173 : decode cX7_join 173 = .ok (.getfield 13, 3) := by decide +kernel
theorem dX7_join_176 : decode cX7_join 176 = .ok (.iload 5, 2) := by decide +kernel
theorem dX7_join_178 : decode cX7_join 178 = .ok (.iconst 4, 1) := by decide +kernel
theorem dX7_join_179 : decode cX7_join 179 = .ok (.iadd, 1) := by decide +kernel
theorem dX7_join_180 : decode cX7_join 180 = .ok (.iconst 1, 1) := by decide +kernel
theorem dX7_join_181 : decode cX7_join 181 = .ok (.iastore, 1) := by decide +kernel
theorem dX7_join_182 : decode cX7_join 182 = .ok (.aload_n 0, 1) := by decide +kernel
theorem dX7_join_183 : decode cX7_join 183 = .ok (.getfield 13, 3) := by decide +kernel
theorem dX7_join_186 : decode cX7_join 186 = .ok (.iload 5, 2) := by decide +kernel
theorem dX7_join_188 : decode cX7_join 188 = .ok (.bipush 24, 2) := by decide +kernel
theorem dX7_join_190 : decode cX7_join 190 = .ok (.iadd, 1) := by decide +kernel
theorem dX7_join_191 : decode cX7_join 191 = .ok (.iconst 1, 1) := by decide +kernel
theorem dX7_join_192 : decode cX7_join 192 = .ok (.iastore, 1) := by decide +kernel
theorem dX7_join_193 : decode cX7_join 193 = .ok (.aload_n 0, 1) := by decide +kernel
theorem dX7_join_194 : decode cX7_join 194 = .ok (.getfield 13, 3) := by decide +kernel
theorem dX7_join_197 : decode cX7_join 197 = .ok (.iload 5, 2) := by decide +kernel
theorem dX7_join_199 : decode cX7_join 199 = .ok (.bipush 26, 2) := by decide +kernel
theorem dX7_join_201 : decode cX7_join 201 = .ok (.iadd, 1) := by decide +kernel
theorem dX7_join_202 : decode cX7_join 202 = .ok (.iconst 1, 1) := by decide +kernel
theorem dX7_join_203 : decode cX7_join 203 = .ok (.iastore, 1) := by decide +kernel
theorem dX7_join_204 : decode cX7_join 204 = .ok (.aload_n 0, 1) := by decide +kernel
theorem dX7_join_205 : decode cX7_join 205 = .ok (.getfield 13, 3) := by decide +kernel
theorem dX7_join_208 : decode cX7_join 208 = .ok (.iload 5, 2) := by decide +kernel
theorem dX7_join_210 : decode cX7_join 210 = .ok (.bipush 45, 2) := by decide +kernel
theorem dX7_join_212 : decode cX7_join 212 = .ok (.iadd, 1) := by decide +kernel
theorem dX7_join_213 : decode cX7_join 213 = .ok (.iconst 1, 1) := by decide +kernel
theorem dX7_join_214 : decode cX7_join 214 = .ok (.iastore, 1) := by decide +kernel
theorem dX7_join_215 : decode cX7_join 215 = .ok (.aload_n 0, 1) := by decide +kernel
theorem dX7_join_216 : decode cX7_join 216 = .ok (.getfield 13, 3) := by decide +kernel
theorem dX7_join_219 : decode cX7_join 219 = .ok (.iload 5, 2) := by decide +kernel
theorem dX7_join_221 : decode cX7_join 221 = .ok (.bipush 48, 2) := by decide +kernel
theorem dX7_join_223 : decode cX7_join 223 = .ok (.iadd, 1) := by decide +kernel
theorem dX7_join_224 : decode cX7_join 224 = .ok (.iconst 1, 1) := by decide +kernel
theorem dX7_join_225 : decode cX7_join 225 = .ok (.iastore, 1) := by decide +kernel
theorem dX7_join_226 : decode cX7_join 226 = .ok (.aload_n 0, 1) := by decide +kernel
theorem dX7_join_227 : decode cX7_join 227 = .ok (.getfield 13, 3) := by decide +kernel
theorem dX7_join_230 : decode cX7_join 230 = .ok (.iload 5, 2) := by decide +kernel
theorem dX7_join_232 : decode cX7_join 232 = .ok (.bipush 49, 2) := by decide +kernel
theorem dX7_join_234 : decode cX7_join 234 = .ok (.iadd, 1) := by decide +kernel
theorem dX7_join_235 : decode cX7_join 235 = .ok (.aload_n 0, 1) := by decide +kernel
theorem dX7_join_236 : decode cX7_join 236 = .ok (.getfield 13, 3) := by decide +kernel
theorem dX7_join_239 : decode cX7_join 239 = .ok (.bipush 7, 2) := by decide +kernel
theorem dX7_join_241 : decode cX7_join 241 = .ok (.iaload, 1) := by decide +kernel
theorem dX7_join_242 : decode cX7_join 242 = .ok (.iastore, 1) := by decide +kernel
theorem dX7_join_243 : decode cX7_join 243 = .ok (.aload_n 0, 1) := by decide +kernel
theorem dX7_join_244 : decode cX7_join 244 = .ok (.getfield 13, 3) := by decide +kernel
theorem dX7_join_247 : decode cX7_join 247 = .ok (.iload_n 3, 1) := by decide +kernel
theorem dX7_join_248 : decode cX7_join 248 = .ok (.bipush 6, 2) := by decide +kernel
theorem dX7_join_250 : decode cX7_join 250 = .ok (.iadd, 1) := by decide +kernel
theorem dX7_join_251 : decode cX7_join 251 = .ok (.dup2, 1) := by decide +kernel
theorem dX7_join_252 : decode cX7_join 252 = .ok (.iaload, 1) := by decide +kernel
theorem dX7_join_253 : decode cX7_join 253 = .ok (.iconst 1, 1) := by decide +kernel
theorem dX7_join_254 : decode cX7_join 254 = .ok (.iadd, 1) := by decide +kernel
theorem dX7_join_255 : decode cX7_join 255 = .ok (.iastore, 1) := by decide +kernel
theorem dX7_join_256 : decode cX7_join 256 = .ok (.aload_n 0, 1) := by decide +kernel
theorem dX7_join_257 : decode cX7_join 257 = .ok (.iload 4, 2) := by decide +kernel
theorem dX7_join_259 : decode cX7_join 259 = .ok (.invokevirtual 68, 3) := by decide +kernel
theorem dX7_join_262 : decode cX7_join 262 = .ok (.ireturn, 1) := by decide +kernel
theorem dX7_leave_0 : decode cX7_leave 0 = .ok (.aload_n 0, 1) := by decide +kernel
theorem dX7_leave_1 : decode cX7_leave 1 = .ok (.iconst 0, 1) := by decide +kernel
theorem dX7_leave_2 : decode cX7_leave 2 = .ok (.putfield 50, 3) := by decide +kernel
theorem dX7_leave_5 : decode cX7_leave 5 = .ok (.aload_n 0, 1) := by decide +kernel
theorem dX7_leave_6 : decode cX7_leave 6 = .ok (.iload_n 1, 1) := by decide +kernel
theorem dX7_leave_7 : decode cX7_leave 7 = .ok (.iload_n 2, 1) := by decide +kernel
theorem dX7_leave_8 : decode cX7_leave 8 = .ok (.invokevirtual 106, 3) := by decide +kernel
theorem dX7_leave_11 : decode cX7_leave 11 = .ok (.ifCond .ne 10, 3) := by decide +kernel
theorem dX7_leave_14 : decode cX7_leave 14 = .ok (.aload_n 0, 1) := by decide +kernel
theorem dX7_leave_15 : decode cX7_leave 15 = .ok (.bipush (-2), 2) := by decide +kernel
theorem dX7_leave_17 : decode cX7_leave 17 = .ok (.invokevirtual 64, 3) := by decide +kernel
theorem dX7_leave_20 : decode cX7_leave 20 = .ok (.ireturn, 1) := by decide +kernel
theorem dX7_leave_21 : decode cX7_leave 21 = .ok (.aload_n 0, 1) := by decide +kernel
theorem dX7_leave_22 : decode cX7_leave 22 = .ok (.iconst 3, 1) := by decide +kernel
theorem dX7_leave_23 : decode cX7_leave 23 = .ok (.invokevirtual 118, 3) := by decide +kernel
theorem dX7_leave_26 : decode cX7_leave 26 = .ok (.iload_n 1, 1) := by decide +kernel
theorem dX7_leave_27 : decode cX7_leave 27 = .ok (.invokestatic 75, 3) := by decide +kernel
theorem dX7_leave_30 : decode cX7_leave 30 = .ok (.istore_n 3, 1) := by decide +kernel
theorem dX7_leave_31 : decode cX7_leave 31 = .ok (.aload_n 0, 1) := by decide +kernel
theorem dX7_leave_32 : decode cX7_leave 32 = .ok (.getfield 13, 3) := by decide +kernel
theorem dX7_leave_35 : decode cX7_leave 35 = .ok (.iload_n 3, 1) := by decide +kernel
theorem dX7_leave_36 : decode cX7_leave 36 = .ok (.bipush 6, 2) := by decide +kernel
theorem dX7_leave_38 : decode cX7_leave 38 = .ok (.iadd, 1) := by decide +kernel
theorem dX7_leave_39 : decode cX7_leave 39 = .ok (.dup2, 1) := by decide +kernel
theorem dX7_leave_40 : decode cX7_leave 40 = .ok (.iaload, 1) := by decide +kernel
theorem dX7_leave_41 : decode cX7_leave 41 = .ok (.iconst 1, 1) := by decide +kernel
theorem dX7_leave_42 : decode cX7_leave 42 = .ok (.isub, 1) := by decide +kernel
theorem dX7_leave_43 : decode cX7_leave 43 = .ok (.iastore, 1) := by decide +kernel
theorem dX7_leave_44 : decode cX7_leave 44 = .ok (.iload_n 1, 1) := by decide +kernel
theorem dX7_leave_45 : decode cX7_leave 45 = .ok (.iload_n 2, 1) := by decide +kernel
theorem dX7_leave_46 : decode cX7_leave 46 = .ok (.invokestatic 82, 3) := by decide +kernel
theorem dX7_leave_49 : decode cX7_leave 49 = .ok (.istore 4, 2) := by decide +kernel
theorem dX7_leave_51 : decode cX7_leave 51 = .ok (.iload 4, 2) := by decide +kernel
theorem dX7_leave_53 : decode cX7_leave 53 = .ok (.iload_n 1, 1) := by decide +kernel
theorem dX7_leave_54 : decode cX7_leave 54 = .ok (.aload_n 0, 1) := by decide +kernel
theorem dX7_leave_55 : decode cX7_leave 55 = .ok (.getfield 13, 3) := by decide +kernel
theorem dX7_leave_58 : decode cX7_leave 58 = .ok (.iload_n 3, 1) := by decide +kernel
theorem dX7_leave_59 : decode cX7_leave 59 = .ok (.bipush 6, 2) := by decide +kernel
theorem dX7_leave_61 : decode cX7_leave 61 = .ok (.iadd, 1) := by decide +kernel
theorem dX7_leave_62 : decode cX7_leave 62 = .ok (.iaload, 1) := by decide +kernel
theorem dX7_leave_63 : decode cX7_leave 63 = .ok (.invokestatic 82, 3) := by decide +kernel
theorem dX7_leave_66 : decode cX7_leave 66 = .ok (.if_icmp .ge 26, 3) := by decide +kernel
theorem dX7_leave_69 : decode cX7_leave 69 = .ok (.aload_n 0, 1) := by decide +kernel
theorem dX7_leave_70 : decode cX7_leave 70 = .ok (.getfield 13, 3) := by decide +kernel
theorem dX7_leave_73 : decode cX7_leave 73 = .ok (.iload 4, 2) := by decide +kernel
theorem dX7_leave_75 : decode cX7_leave 75 = .ok (.aload_n 0, 1) := by decide +kernel
theorem dX7_leave_76 : decode cX7_leave 76 = .ok (.getfield 13, 3) := by decide +kernel
theorem dX7_leave_79 : decode cX7_leave 79 = .ok (.iload 4, 2) := by decide +kernel
theorem dX7_leave_81 : decode cX7_leave 81 = .ok (.bipush 66, 2) := by decide +kernel
theorem dX7_leave_83 : decode cX7_leave 83 = .ok (.iadd, 1) := by decide +kernel
theorem dX7_leave_84 : decode cX7_leave 84 = .ok (.iaload, 1) := by decide +kernel
theorem dX7_leave_85 : decode cX7_leave 85 = .ok (.iastore, 1) := by decide +kernel
theorem dX7_leave_86 : decode cX7_leave 86 = .ok (.iinc 4 1, 3) := by decide +kernel
theorem dX7_leave_89 : decode cX7_leave 89 = .ok (.goto (-38), 3) := by decide +kernel
theorem dX7_leave_92 : decode cX7_leave 92 = .ok (.aload_n 0, 1) := by decide +kernel
theorem dX7_leave_93 : decode cX7_leave 93 = .ok (.getfield 13, 3) := by decide +kernel
theorem dX7_leave_96 : decode cX7_leave 96 = .ok (.iload_n 3, 1) := by decide +kernel
theorem dX7_leave_97 : decode cX7_leave 97 = .ok (.bipush 8, 2) := by decide +kernel
theorem dX7_leave_99 : decode cX7_leave 99 = .ok (.iadd, 1) := by decide +kernel
theorem dX7_leave_100 : decode cX7_leave 100 = .ok (.aload_n 0, 1) := by decide +kernel
theorem dX7_leave_101 : decode cX7_leave 101 = .ok (.getfield 13, 3) := by decide +kernel
theorem dX7_leave_104 : decode cX7_leave 104 = .ok (.iload_n 3, 1) := by decide +kernel
theorem dX7_leave_105 : decode cX7_leave 105 = .ok (.iconst 5, 1) := by decide +kernel
theorem dX7_leave_106 : decode cX7_leave 106 = .ok (.iadd, 1) := by decide +kernel
theorem dX7_leave_107 : decode cX7_leave 107 = .ok (.iaload, 1) := by decide +kernel
theorem dX7_leave_108 : decode cX7_leave 108 = .ok (.iload_n 2, 1) := by decide +kernel
theorem dX7_leave_109 : decode cX7_leave 109 = .ok (.if_icmp .ne 8, 3) := by decide +kernel
theorem dX7_leave_112 : decode cX7_leave 112 = .ok (.bipush 8, 2) := by decide +kernel
theorem dX7_leave_114 : decode cX7_leave 114 = .ok (.goto 12, 3) := by decide +kernel
theorem dX7_leave_117 : decode cX7_leave 117 = .ok (.aload_n 0, 1) := by decide +kernel
theorem dX7_leave_118 : decode cX7_leave 118 = .ok (.getfield 13, 3) := by decide +kernel
theorem dX7_leave_121 : decode cX7_leave 121 = .ok (.iload_n 3, 1) := by decide +kernel
theorem dX7_leave_122 : decode cX7_leave 122 = .ok (.bipush 8, 2) := by decide +kernel
theorem dX7_leave_124 : decode cX7_leave 124 = .ok (.iadd, 1) := by decide +kernel
theorem dX7_leave_125 : decode cX7_leave 125 = .ok (.iaload, 1) := by decide +kernel
theorem dX7_leave_126 : decode cX7_leave 126 = .ok (.iastore, 1) := by decide +kernel
theorem dX7_leave_127 : decode cX7_leave 127 = .ok (.aload_n 0, 1) := by decide +kernel
theorem dX7_leave_128 : decode cX7_leave 128 = .ok (.getfield 13, 3) := by decide +kernel
theorem dX7_leave_131 : decode cX7_leave 131 = .ok (.iload_n 3, 1) := by decide +kernel
theorem dX7_leave_132 : decode cX7_leave 132 = .ok (.iconst 5, 1) := by decide +kernel
theorem dX7_leave_133 : decode cX7_leave 133 = .ok (.iadd, 1) := by decide +kernel
theorem dX7_leave_134 : decode cX7_leave 134 = .ok (.dup2, 1) := by decide +kernel
theorem dX7_leave_135 : decode cX7_leave 135 = .ok (.iaload, 1) := by decide +kernel
theorem dX7_leave_136 : decode cX7_leave 136 = .ok (.aload_n 0, 1) := by decide +kernel
theorem dX7_leave_137 : decode cX7_leave 137 = .ok (.getfield 13, 3) := by decide +kernel
theorem dX7_leave_140 : decode cX7_leave 140 = .ok (.iload_n 3, 1) := by decide +kernel
theorem dX7_leave_141 : decode cX7_leave 141 = .ok (.iconst 5, 1) := by decide +kernel
theorem dX7_leave_142 : decode cX7_leave 142 = .ok (.iadd, 1) := by decide +kernel
theorem dX7_leave_143 : decode cX7_leave 143 = .ok (.iaload, 1) := by decide +kernel
theorem dX7_leave_144 : decode cX7_leave 144 = .ok (.iload_n 2, 1) := by decide +kernel
theorem dX7_leave_145 : decode cX7_leave 145 = .ok (.if_icmp .lt 7, 3) := by decide +kernel
theorem dX7_leave_148 : decode cX7_leave 148 = .ok (.iconst 1, 1) := by decide +kernel
theorem dX7_leave_149 : decode cX7_leave 149 = .ok (.goto 4, 3) := by decide +kernel
theorem dX7_leave_152 : decode cX7_leave 152 = .ok (.iconst 0, 1) := by decide +kernel
theorem dX7_leave_153 : decode cX7_leave 153 = .ok (.isub, 1) := by decide +kernel
theorem dX7_leave_154 : decode cX7_leave 154 = .ok (.iastore, 1) := by decide +kernel
theorem dX7_leave_155 : decode cX7_leave 155 = .ok (.aload_n 0, 1) := by decide +kernel
theorem dX7_leave_156 : decode cX7_leave 156 = .ok (.aload_n 0, 1) := by decide +kernel
theorem dX7_leave_157 : decode cX7_leave 157 = .ok (.getfield 13, 3) := by decide +kernel
theorem dX7_leave_160 : decode cX7_leave 160 = .ok (.iload_n 3, 1) := by decide +kernel
theorem dX7_leave_161 : decode cX7_leave 161 = .ok (.bipush 6, 2) := by decide +kernel
theorem dX7_leave_163 : decode cX7_leave 163 = .ok (.iadd, 1) := by decide +kernel
theorem dX7_leave_164 : decode cX7_leave 164 = .ok (.iaload, 1) := by decide +kernel
theorem dX7_leave_165 : decode cX7_leave 165 = .ok (.invokevirtual 68, 3) := by decide +kernel
theorem dX7_leave_168 : decode cX7_leave 168 = .ok (.ireturn, 1) := by decide +kernel
theorem dX7_noise_0 : decode cX7_noise 0 = .ok (.aload_n 0, 1) := by decide +kernel
theorem dX7_noise_1 : decode cX7_noise 1 = .ok (.iconst 0, 1) := by decide +kernel
theorem dX7_noise_2 : decode cX7_noise 2 = .ok (.putfield 50, 3) := by decide +kernel
theorem dX7_noise_5 : decode cX7_noise 5 = .ok (.iload_n 1, 1) := by decide +kernel
theorem dX7_noise_6 : decode cX7_noise 6 = .ok (.i2l, 1) := by decide +kernel
theorem dX7_noise_7 : decode cX7_noise 7 = .ok (.lconst 0, 1) := by decide +kernel
theorem dX7_noise_8 : decode cX7_noise 8 = .ok (.ldc2_w 128, 3) := by decide +kernel
theorem dX7_noise_11 : decode cX7_noise 11 = .ok (.invokestatic 71, 3) := by decide +kernel
theorem dX7_noise_14 : decode cX7_noise 14 = .ok (.ifCond .eq 15, 3) := by decide +kernel
theorem dX7_noise_17 : decode cX7_noise 17 = .ok (.iload_n 2, 1) := by decide +kernel
theorem dX7_noise_18 : decode cX7_noise 18 = .ok (.i2l, 1) := by decide +kernel
theorem dX7_noise_19 : decode cX7_noise 19 = .ok (.lconst 0, 1) := by decide +kernel
theorem dX7_noise_20 : decode cX7_noise 20 = .ok (.ldc2_w 130, 3) := by decide +kernel
theorem dX7_noise_23 : decode cX7_noise 23 = .ok (.invokestatic 71, 3) := by decide +kernel
theorem dX7_noise_26 : decode cX7_noise 26 = .ok (.ifCond .ne 9, 3) := by decide +kernel
theorem dX7_noise_29 : decode cX7_noise 29 = .ok (.aload_n 0, 1) := by decide +kernel
theorem dX7_noise_30 : decode cX7_noise 30 = .ok (.iconst (-1), 1) := by decide +kernel
theorem dX7_noise_31 : decode cX7_noise 31 = .ok (.invokevirtual 64, 3) := by decide +kernel
theorem dX7_noise_34 : decode cX7_noise 34 = .ok (.ireturn, 1) := by decide +kernel
theorem dX7_noise_35 : decode cX7_noise 35 = .ok (.aload_n 0, 1) := by decide +kernel
theorem dX7_noise_36 : decode cX7_noise 36 = .ok (.iconst 4, 1) := by decide +kernel
theorem dX7_noise_37 : decode cX7_noise 37 = .ok (.invokevirtual 118, 3) := by decide +kernel
theorem dX7_noise_40 : decode cX7_noise 40 = .ok (.aload_n 0, 1) := by decide +kernel
theorem dX7_noise_41 : decode cX7_noise 41 = .ok (.getfield 13, 3) := by decide +kernel
theorem dX7_noise_44 : decode cX7_noise 44 = .ok (.bipush 19, 2) := by decide +kernel
theorem dX7_noise_46 : decode cX7_noise 46 = .ok (.iload_n 1, 1) := by decide +kernel
theorem dX7_noise_47 : decode cX7_noise 47 = .ok (.iadd, 1) := by decide +kernel
theorem dX7_noise_48 : decode cX7_noise 48 = .ok (.iaload, 1) := by decide +kernel
theorem dX7_noise_49 : decode cX7_noise 49 = .ok (.istore_n 3, 1) := by decide +kernel
theorem dX7_noise_50 : decode cX7_noise 50 = .ok (.aload_n 0, 1) := by decide +kernel
theorem dX7_noise_51 : decode cX7_noise 51 = .ok (.getfield 13, 3) := by decide +kernel
theorem dX7_noise_54 : decode cX7_noise 54 = .ok (.bipush 19, 2) := by decide +kernel
theorem dX7_noise_56 : decode cX7_noise 56 = .ok (.iload_n 1, 1) := by decide +kernel
theorem dX7_noise_57 : decode cX7_noise 57 = .ok (.iadd, 1) := by decide +kernel
theorem dX7_noise_58 : decode cX7_noise 58 = .ok (.iload_n 2, 1) := by decide +kernel
theorem dX7_noise_59 : decode cX7_noise 59 = .ok (.iastore, 1) := by decide +kernel
theorem dX7_noise_60 : decode cX7_noise 60 = .ok (.aload_n 0, 1) := by decide +kernel
theorem dX7_noise_61 : decode cX7_noise 61 = .ok (.iload_n 3, 1) := by decide +kernel
theorem dX7_noise_62 : decode cX7_noise 62 = .ok (.invokevirtual 68, 3) := by decide +kernel
theorem dX7_noise_65 : decode cX7_noise 65 = .ok (.ireturn, 1) := by decide +kernel
theorem dX7_terms_0 : decode cX7_terms 0 = .ok (.aload_n 0, 1) := by decide +kernel
theorem dX7_terms_1 : decode cX7_terms 1 = .ok (.iconst 0, 1) := by decide +kernel
theorem dX7_terms_2 : decode cX7_terms 2 = .ok (.putfield 50, 3) := by decide +kernel
theorem dX7_terms_5 : decode cX7_terms 5 = .ok (.iload_n 1, 1) := by decide +kernel
theorem dX7_terms_6 : decode cX7_terms 6 = .ok (.i2l, 1) := by decide +kernel
theorem dX7_terms_7 : decode cX7_terms 7 = .ok (.lconst 0, 1) := by decide +kernel
theorem dX7_terms_8 : decode cX7_terms 8 = .ok (.ldc2_w 134, 3) := by decide +kernel
theorem dX7_terms_11 : decode cX7_terms 11 = .ok (.invokestatic 71, 3) := by decide +kernel
theorem dX7_terms_14 : decode cX7_terms 14 = .ok (.ifCond .eq 49, 3) := by decide +kernel
theorem dX7_terms_17 : decode cX7_terms 17 = .ok (.iload_n 1, 1) := by decide +kernel
theorem dX7_terms_18 : decode cX7_terms 18 = .ok (.ifCond .ne 18, 3) := by decide +kernel
theorem dX7_terms_21 : decode cX7_terms 21 = .ok (.iload_n 2, 1) := by decide +kernel
theorem dX7_terms_22 : decode cX7_terms 22 = .ok (.i2l, 1) := by decide +kernel
theorem dX7_terms_23 : decode cX7_terms 23 = .ok (.lconst 0, 1) := by decide +kernel
theorem dX7_terms_24 : decode cX7_terms 24 = .ok (.ldc2_w 136, 3) := by decide +kernel
theorem dX7_terms_27 : decode cX7_terms 27 = .ok (.invokestatic 71, 3) := by decide +kernel
theorem dX7_terms_30 : decode cX7_terms 30 = .ok (.ifCond .ne 39, 3) := by decide +kernel
theorem dX7_terms_33 : decode cX7_terms 33 = .ok (.goto 30, 3) := by decide +kernel
theorem dX7_terms_36 : decode cX7_terms 36 = .ok (.iload_n 1, 1) := by decide +kernel
theorem dX7_terms_37 : decode cX7_terms 37 = .ok (.iconst 1, 1) := by decide +kernel
theorem dX7_terms_38 : decode cX7_terms 38 = .ok (.if_icmp .ne 13, 3) := by decide +kernel
theorem dX7_terms_41 : decode cX7_terms 41 = .ok (.iload_n 2, 1) := by decide +kernel
theorem dX7_terms_42 : decode cX7_terms 42 = .ok (.invokestatic 138, 3) := by decide +kernel
theorem dX7_terms_45 : decode cX7_terms 45 = .ok (.ifCond .ne 24, 3) := by decide +kernel
theorem dX7_terms_48 : decode cX7_terms 48 = .ok (.goto 15, 3) := by decide +kernel
theorem dX7_terms_51 : decode cX7_terms 51 = .ok (.iload_n 2, 1) := by decide +kernel
theorem dX7_terms_52 : decode cX7_terms 52 = .ok (.i2l, 1) := by decide +kernel
theorem dX7_terms_53 : decode cX7_terms 53 = .ok (.lconst 1, 1) := by decide +kernel
theorem dX7_terms_54 : decode cX7_terms 54 = .ok (.ldc2_w 141, 3) := by decide +kernel
theorem dX7_terms_57 : decode cX7_terms 57 = .ok (.invokestatic 71, 3) := by decide +kernel
theorem dX7_terms_60 : decode cX7_terms 60 = .ok (.ifCond .ne 9, 3) := by decide +kernel
theorem dX7_terms_63 : decode cX7_terms 63 = .ok (.aload_n 0, 1) := by decide +kernel
theorem dX7_terms_64 : decode cX7_terms 64 = .ok (.iconst (-1), 1) := by decide +kernel
theorem dX7_terms_65 : decode cX7_terms 65 = .ok (.invokevirtual 64, 3) := by decide +kernel
theorem dX7_terms_68 : decode cX7_terms 68 = .ok (.ireturn, 1) := by decide +kernel
theorem dX7_terms_69 : decode cX7_terms 69 = .ok (.aload_n 0, 1) := by decide +kernel
theorem dX7_terms_70 : decode cX7_terms 70 = .ok (.iconst 5, 1) := by decide +kernel
theorem dX7_terms_71 : decode cX7_terms 71 = .ok (.invokevirtual 118, 3) := by decide +kernel
theorem dX7_terms_74 : decode cX7_terms 74 = .ok (.aload_n 0, 1) := by decide +kernel
theorem dX7_terms_75 : decode cX7_terms 75 = .ok (.getfield 13, 3) := by decide +kernel
theorem dX7_terms_78 : decode cX7_terms 78 = .ok (.bipush 8, 2) := by decide +kernel
theorem dX7_terms_80 : decode cX7_terms 80 = .ok (.iload_n 1, 1) := by decide +kernel
theorem dX7_terms_81 : decode cX7_terms 81 = .ok (.iadd, 1) := by decide +kernel
theorem dX7_terms_82 : decode cX7_terms 82 = .ok (.iaload, 1) := by decide +kernel
theorem dX7_terms_83 : decode cX7_terms 83 = .ok (.istore_n 3, 1) := by decide +kernel
theorem dX7_terms_84 : decode cX7_terms 84 = .ok (.aload_n 0, 1) := by decide +kernel
theorem dX7_terms_85 : decode cX7_terms 85 = .ok (.getfield 13, 3) := by decide +kernel
theorem dX7_terms_88 : decode cX7_terms 88 = .ok (.bipush 8, 2) := by decide +kernel
theorem dX7_terms_90 : decode cX7_terms 90 = .ok (.iload_n 1, 1) := by decide +kernel
theorem dX7_terms_91 : decode cX7_terms 91 = .ok (.iadd, 1) := by decide +kernel
theorem dX7_terms_92 : decode cX7_terms 92 = .ok (.iload_n 2, 1) := by decide +kernel
theorem dX7_terms_93 : decode cX7_terms 93 = .ok (.iastore, 1) := by decide +kernel
theorem dX7_terms_94 : decode cX7_terms 94 = .ok (.aload_n 0, 1) := by decide +kernel
theorem dX7_terms_95 : decode cX7_terms 95 = .ok (.iload_n 3, 1) := by decide +kernel
theorem dX7_terms_96 : decode cX7_terms 96 = .ok (.invokevirtual 68, 3) := by decide +kernel
theorem dX7_terms_99 : decode cX7_terms 99 = .ok (.ireturn, 1) := by decide +kernel
theorem dX7_put_0 : decode cX7_put 0 = .ok (.aload_n 0, 1) := by decide +kernel
theorem dX7_put_1 : decode cX7_put 1 = .ok (.iconst 0, 1) := by decide +kernel
theorem dX7_put_2 : decode cX7_put 2 = .ok (.putfield 50, 3) := by decide +kernel
theorem dX7_put_5 : decode cX7_put 5 = .ok (.iload_n 3, 1) := by decide +kernel
theorem dX7_put_6 : decode cX7_put 6 = .ok (.i2l, 1) := by decide +kernel
theorem dX7_put_7 : decode cX7_put 7 = .ok (.lconst 0, 1) := by decide +kernel
theorem dX7_put_8 : decode cX7_put 8 = .ok (.lconst 1, 1) := by decide +kernel
theorem dX7_put_9 : decode cX7_put 9 = .ok (.invokestatic 71, 3) := by decide +kernel
theorem dX7_put_12 : decode cX7_put 12 = .ok (.ifCond .eq 16, 3) := by decide +kernel
theorem dX7_put_15 : decode cX7_put 15 = .ok (.iload 4, 2) := by decide +kernel
theorem dX7_put_17 : decode cX7_put 17 = .ok (.i2l, 1) := by decide +kernel
theorem dX7_put_18 : decode cX7_put 18 = .ok (.lconst 0, 1) := by decide +kernel
theorem dX7_put_19 : decode cX7_put 19 = .ok (.ldc2_w 143, 3) := by decide +kernel
theorem dX7_put_22 : decode cX7_put 22 = .ok (.invokestatic 71, 3) := by decide +kernel
theorem dX7_put_25 : decode cX7_put 25 = .ok (.ifCond .ne 9, 3) := by decide +kernel
theorem dX7_put_28 : decode cX7_put 28 = .ok (.aload_n 0, 1) := by decide +kernel
theorem dX7_put_29 : decode cX7_put 29 = .ok (.iconst (-1), 1) := by decide +kernel
theorem dX7_put_30 : decode cX7_put 30 = .ok (.invokevirtual 64, 3) := by decide +kernel
theorem dX7_put_33 : decode cX7_put 33 = .ok (.ireturn, 1) := by decide +kernel
theorem dX7_put_34 : decode cX7_put 34 = .ok (.aload_n 0, 1) := by decide +kernel
theorem dX7_put_35 : decode cX7_put 35 = .ok (.iload_n 1, 1) := by decide +kernel
theorem dX7_put_36 : decode cX7_put 36 = .ok (.iload_n 2, 1) := by decide +kernel
theorem dX7_put_37 : decode cX7_put 37 = .ok (.invokevirtual 106, 3) := by decide +kernel
theorem dX7_put_40 : decode cX7_put 40 = .ok (.ifCond .ne 10, 3) := by decide +kernel
theorem dX7_put_43 : decode cX7_put 43 = .ok (.aload_n 0, 1) := by decide +kernel
theorem dX7_put_44 : decode cX7_put 44 = .ok (.bipush (-2), 2) := by decide +kernel
theorem dX7_put_46 : decode cX7_put 46 = .ok (.invokevirtual 64, 3) := by decide +kernel
theorem dX7_put_49 : decode cX7_put 49 = .ok (.ireturn, 1) := by decide +kernel
theorem dX7_put_50 : decode cX7_put 50 = .ok (.iload_n 1, 1) := by decide +kernel
theorem dX7_put_51 : decode cX7_put 51 = .ok (.iload_n 2, 1) := by decide +kernel
theorem dX7_put_52 : decode cX7_put 52 = .ok (.invokestatic 82, 3) := by decide +kernel
theorem dX7_put_55 : decode cX7_put 55 = .ok (.iload_n 3, 1) := by decide +kernel
theorem dX7_put_56 : decode cX7_put 56 = .ok (.ifCond .ne 7, 3) := by decide +kernel
theorem dX7_put_59 : decode cX7_put 59 = .ok (.iconst 5, 1) := by decide +kernel
theorem dX7_put_60 : decode cX7_put 60 = .ok (.goto 5, 3) := by decide +kernel
theorem dX7_put_63 : decode cX7_put 63 = .ok (.bipush 14, 2) := by decide +kernel
theorem dX7_put_65 : decode cX7_put 65 = .ok (.iadd, 1) := by decide +kernel
theorem dX7_put_66 : decode cX7_put 66 = .ok (.istore 5, 2) := by decide +kernel
theorem dX7_put_68 : decode cX7_put 68 = .ok (.aload_n 0, 1) := by decide +kernel
theorem dX7_put_69 : decode cX7_put 69 = .ok (.getfield 13, 3) := by decide +kernel
theorem dX7_put_72 : decode cX7_put 72 = .ok (.iload 5, 2) := by decide +kernel
theorem dX7_put_74 : decode cX7_put 74 = .ok (.iaload, 1) := by decide +kernel
theorem dX7_put_75 : decode cX7_put 75 = .ok (.istore 6, 2) := by decide +kernel
theorem dX7_put_77 : decode cX7_put 77 = .ok (.iload 6, 2) := by decide +kernel
theorem dX7_put_79 : decode cX7_put 79 = .ok (.bipush 8, 2) := by decide +kernel
theorem dX7_put_81 : decode cX7_put 81 = .ok (.if_icmp .ne 10, 3) := by decide +kernel
theorem dX7_put_84 : decode cX7_put 84 = .ok (.aload_n 0, 1) := by decide +kernel
theorem dX7_put_85 : decode cX7_put 85 = .ok (.bipush (-5), 2) := by decide +kernel
theorem dX7_put_87 : decode cX7_put 87 = .ok (.invokevirtual 64, 3) := by decide +kernel
theorem dX7_put_90 : decode cX7_put 90 = .ok (.ireturn, 1) := by decide +kernel
theorem dX7_put_91 : decode cX7_put 91 = .ok (.aload_n 0, 1) := by decide +kernel
theorem dX7_put_92 : decode cX7_put 92 = .ok (.bipush 6, 2) := by decide +kernel
theorem dX7_put_94 : decode cX7_put 94 = .ok (.invokevirtual 118, 3) := by decide +kernel
theorem dX7_put_97 : decode cX7_put 97 = .ok (.aload_n 0, 1) := by decide +kernel
theorem dX7_put_98 : decode cX7_put 98 = .ok (.iload 5, 2) := by decide +kernel
theorem dX7_put_100 : decode cX7_put 100 = .ok (.iload_n 1, 1) := by decide +kernel
theorem dX7_put_101 : decode cX7_put 101 = .ok (.iload_n 2, 1) := by decide +kernel
theorem dX7_put_102 : decode cX7_put 102 = .ok (.invokestatic 82, 3) := by decide +kernel
theorem dX7_put_105 : decode cX7_put 105 = .ok (.iload_n 3, 1) := by decide +kernel
theorem dX7_put_106 : decode cX7_put 106 = .ok (.ifCond .ne 8, 3) := by decide +kernel
theorem dX7_put_109 : decode cX7_put 109 = .ok (.bipush 50, 2) := by decide +kernel
theorem dX7_put_111 : decode cX7_put 111 = .ok (.goto 5, 3) := by decide +kernel
theorem dX7_put_114 : decode cX7_put 114 = .ok (.bipush 58, 2) := by decide +kernel
theorem dX7_put_116 : decode cX7_put 116 = .ok (.iadd, 1) := by decide +kernel
theorem dX7_put_117 : decode cX7_put 117 = .ok (.iload 4, 2) := by decide +kernel
theorem dX7_put_119 : decode cX7_put 119 = .ok (.aload_n 0, 1) := by decide +kernel
theorem dX7_put_120 : decode cX7_put 120 = .ok (.getfield 13, 3) := by decide +kernel
theorem dX7_put_123 : decode cX7_put 123 = .ok (.bipush 7, 2) := by decide +kernel
theorem dX7_put_125 : decode cX7_put 125 = .ok (.iaload, 1) := by decide +kernel
theorem dX7_put_126 : decode cX7_put 126 = .ok (.invokevirtual 145, 3) := by decide +kernel
theorem dX7_put_129 : decode cX7_put 129 = .ok (.aload_n 0, 1) := by decide +kernel
theorem dX7_put_130 : decode cX7_put 130 = .ok (.iload 6, 2) := by decide +kernel
theorem dX7_put_132 : decode cX7_put 132 = .ok (.iconst 1, 1) := by decide +kernel
theorem dX7_put_133 : decode cX7_put 133 = .ok (.iadd, 1) := by decide +kernel
theorem dX7_put_134 : decode cX7_put 134 = .ok (.invokevirtual 68, 3) := by decide +kernel
theorem dX7_put_137 : decode cX7_put 137 = .ok (.ireturn, 1) := by decide +kernel
theorem dX7_reserve_0 : decode cX7_reserve 0 = .ok (.aload_n 0, 1) := by decide +kernel
theorem dX7_reserve_1 : decode cX7_reserve 1 = .ok (.iconst 0, 1) := by decide +kernel
theorem dX7_reserve_2 : decode cX7_reserve 2 = .ok (.putfield 50, 3) := by decide +kernel
theorem dX7_reserve_5 : decode cX7_reserve 5 = .ok (.iload_n 3, 1) := by decide +kernel
theorem dX7_reserve_6 : decode cX7_reserve 6 = .ok (.ifCond .eq 45, 3) := by decide +kernel
theorem dX7_reserve_9 : decode cX7_reserve 9 = .ok (.iload_n 3, 1) := by decide +kernel
theorem dX7_reserve_10 : decode cX7_reserve 10 = .ok (.bipush 6, 2) := by decide +kernel
theorem dX7_reserve_12 : decode cX7_reserve 12 = .ok (.bipush 40, 2) := by decide +kernel
theorem dX7_reserve_14 : decode cX7_reserve 14 = .ok (.invokestatic 149, 3) := by decide +kernel
theorem dX7_reserve_17 : decode cX7_reserve 17 = .ok (.ifCond .eq 28, 3) := by decide +kernel
theorem dX7_reserve_20 : decode cX7_reserve 20 = .ok (.iload 4, 2) := by decide +kernel
theorem dX7_reserve_22 : decode cX7_reserve 22 = .ok (.iconst 0, 1) := by decide +kernel
theorem dX7_reserve_23 : decode cX7_reserve 23 = .ok (.iload_n 3, 1) := by decide +kernel
theorem dX7_reserve_24 : decode cX7_reserve 24 = .ok (.iconst 1, 1) := by decide +kernel
theorem dX7_reserve_25 : decode cX7_reserve 25 = .ok (.isub, 1) := by decide +kernel
theorem dX7_reserve_26 : decode cX7_reserve 26 = .ok (.invokestatic 149, 3) := by decide +kernel
theorem dX7_reserve_29 : decode cX7_reserve 29 = .ok (.ifCond .eq 16, 3) := by decide +kernel
theorem dX7_reserve_32 : decode cX7_reserve 32 = .ok (.iload 5, 2) := by decide +kernel
theorem dX7_reserve_34 : decode cX7_reserve 34 = .ok (.i2l, 1) := by decide +kernel
theorem dX7_reserve_35 : decode cX7_reserve 35 = .ok (.lconst 1, 1) := by decide +kernel
theorem dX7_reserve_36 : decode cX7_reserve 36 = .ok (.ldc2_w 153, 3) := by decide +kernel
theorem dX7_reserve_39 : decode cX7_reserve 39 = .ok (.invokestatic 71, 3) := by decide +kernel
theorem dX7_reserve_42 : decode cX7_reserve 42 = .ok (.ifCond .ne 9, 3) := by decide +kernel
theorem dX7_reserve_45 : decode cX7_reserve 45 = .ok (.aload_n 0, 1) := by decide +kernel
theorem dX7_reserve_46 : decode cX7_reserve 46 = .ok (.iconst (-1), 1) := by decide +kernel
theorem dX7_reserve_47 : decode cX7_reserve 47 = .ok (.invokevirtual 64, 3) := by decide +kernel
theorem dX7_reserve_50 : decode cX7_reserve 50 = .ok (.ireturn, 1) := by decide +kernel
theorem dX7_reserve_51 : decode cX7_reserve 51 = .ok (.aload_n 0, 1) := by decide +kernel
theorem dX7_reserve_52 : decode cX7_reserve 52 = .ok (.iload_n 1, 1) := by decide +kernel
theorem dX7_reserve_53 : decode cX7_reserve 53 = .ok (.iload_n 2, 1) := by decide +kernel
theorem dX7_reserve_54 : decode cX7_reserve 54 = .ok (.invokevirtual 106, 3) := by decide +kernel
theorem dX7_reserve_57 : decode cX7_reserve 57 = .ok (.ifCond .ne 10, 3) := by decide +kernel
theorem dX7_reserve_60 : decode cX7_reserve 60 = .ok (.aload_n 0, 1) := by decide +kernel
theorem dX7_reserve_61 : decode cX7_reserve 61 = .ok (.bipush (-2), 2) := by decide +kernel
theorem dX7_reserve_63 : decode cX7_reserve 63 = .ok (.invokevirtual 64, 3) := by decide +kernel
theorem dX7_reserve_66 : decode cX7_reserve 66 = .ok (.ireturn, 1) := by decide +kernel
theorem dX7_reserve_67 : decode cX7_reserve 67 = .ok (.aload_n 0, 1) := by decide +kernel
theorem dX7_reserve_68 : decode cX7_reserve 68 = .ok (.bipush 7, 2) := by decide +kernel
theorem dX7_reserve_70 : decode cX7_reserve 70 = .ok (.invokevirtual 118, 3) := by decide +kernel
theorem dX7_reserve_73 : decode cX7_reserve 73 = .ok (.iload_n 1, 1) := by decide +kernel
theorem dX7_reserve_74 : decode cX7_reserve 74 = .ok (.iload_n 2, 1) := by decide +kernel
theorem dX7_reserve_75 : decode cX7_reserve 75 = .ok (.invokestatic 82, 3) := by decide +kernel
theorem dX7_reserve_78 : decode cX7_reserve 78 = .ok (.istore 6, 2) := by decide +kernel
theorem dX7_reserve_80 : decode cX7_reserve 80 = .ok (.aload_n 0, 1) := by decide +kernel
theorem dX7_reserve_81 : decode cX7_reserve 81 = .ok (.getfield 13, 3) := by decide +kernel
theorem dX7_reserve_84 : decode cX7_reserve 84 = .ok (.iload 6, 2) := by decide +kernel
theorem dX7_reserve_86 : decode cX7_reserve 86 = .ok (.bipush 31, 2) := by decide +kernel
theorem dX7_reserve_88 : decode cX7_reserve 88 = .ok (.iadd, 1) := by decide +kernel
theorem dX7_reserve_89 : decode cX7_reserve 89 = .ok (.iaload, 1) := by decide +kernel
theorem dX7_reserve_90 : decode cX7_reserve 90 = .ok (.ifCond .le 7, 3) := by decide +kernel
theorem dX7_reserve_93 : decode cX7_reserve 93 = .ok (.iconst 1, 1) := by decide +kernel
theorem dX7_reserve_94 : decode cX7_reserve 94 = .ok (.goto 4, 3) := by decide +kernel
theorem dX7_reserve_97 : decode cX7_reserve 97 = .ok (.iconst 0, 1) := by decide +kernel
theorem dX7_reserve_98 : decode cX7_reserve 98 = .ok (.istore 7, 2) := by decide +kernel
theorem dX7_reserve_100 : decode cX7_reserve 100 = .ok (.aload_n 0, 1) := by decide +kernel
theorem dX7_reserve_101 : decode cX7_reserve 101 = .ok (.getfield 13, 3) := by decide +kernel
theorem dX7_reserve_104 : decode cX7_reserve 104 = .ok (.iload 6, 2) := by decide +kernel
theorem dX7_reserve_106 : decode cX7_reserve 106 = .ok (.bipush 31, 2) := by decide +kernel
theorem dX7_reserve_108 : decode cX7_reserve 108 = .ok (.iadd, 1) := by decide +kernel
theorem dX7_reserve_109 : decode cX7_reserve 109 = .ok (.iload_n 3, 1) := by decide +kernel
theorem dX7_reserve_110 : decode cX7_reserve 110 = .ok (.iastore, 1) := by decide +kernel
theorem dX7_reserve_111 : decode cX7_reserve 111 = .ok (.aload_n 0, 1) := by decide +kernel
theorem dX7_reserve_112 : decode cX7_reserve 112 = .ok (.getfield 13, 3) := by decide +kernel
theorem dX7_reserve_115 : decode cX7_reserve 115 = .ok (.iload 6, 2) := by decide +kernel
theorem dX7_reserve_117 : decode cX7_reserve 117 = .ok (.bipush 32, 2) := by decide +kernel
theorem dX7_reserve_119 : decode cX7_reserve 119 = .ok (.iadd, 1) := by decide +kernel
theorem dX7_reserve_120 : decode cX7_reserve 120 = .ok (.iload_n 3, 1) := by decide +kernel
theorem dX7_reserve_121 : decode cX7_reserve 121 = .ok (.ifCond .le 8, 3) := by decide +kernel
theorem dX7_reserve_124 : decode cX7_reserve 124 = .ok (.iload 4, 2) := by decide +kernel
theorem dX7_reserve_126 : decode cX7_reserve 126 = .ok (.goto 4, 3) := by decide +kernel
theorem dX7_reserve_129 : decode cX7_reserve 129 = .ok (.iconst 0, 1) := by decide +kernel
theorem dX7_reserve_130 : decode cX7_reserve 130 = .ok (.iastore, 1) := by decide +kernel
theorem dX7_reserve_131 : decode cX7_reserve 131 = .ok (.aload_n 0, 1) := by decide +kernel
theorem dX7_reserve_132 : decode cX7_reserve 132 = .ok (.getfield 13, 3) := by decide +kernel
theorem dX7_reserve_135 : decode cX7_reserve 135 = .ok (.iload 6, 2) := by decide +kernel
theorem dX7_reserve_137 : decode cX7_reserve 137 = .ok (.bipush 33, 2) := by decide +kernel
theorem dX7_reserve_139 : decode cX7_reserve 139 = .ok (.iadd, 1) := by decide +kernel
theorem dX7_reserve_140 : decode cX7_reserve 140 = .ok (.iload_n 3, 1) := by decide +kernel
theorem dX7_reserve_141 : decode cX7_reserve 141 = .ok (.ifCond .le 8, 3) := by decide +kernel
theorem dX7_reserve_144 : decode cX7_reserve 144 = .ok (.iload 5, 2) := by decide +kernel
theorem dX7_reserve_146 : decode cX7_reserve 146 = .ok (.goto 4, 3) := by decide +kernel
theorem dX7_reserve_149 : decode cX7_reserve 149 = .ok (.iconst 0, 1) := by decide +kernel
theorem dX7_reserve_150 : decode cX7_reserve 150 = .ok (.iastore, 1) := by decide +kernel
theorem dX7_reserve_151 : decode cX7_reserve 151 = .ok (.aload_n 0, 1) := by decide +kernel
theorem dX7_reserve_152 : decode cX7_reserve 152 = .ok (.getfield 13, 3) := by decide +kernel
theorem dX7_reserve_155 : decode cX7_reserve 155 = .ok (.iload 6, 2) := by decide +kernel
theorem dX7_reserve_157 : decode cX7_reserve 157 = .ok (.bipush 34, 2) := by decide +kernel
theorem dX7_reserve_159 : decode cX7_reserve 159 = .ok (.iadd, 1) := by decide +kernel
theorem dX7_reserve_160 : decode cX7_reserve 160 = .ok (.iconst 0, 1) := by decide +kernel
theorem dX7_reserve_161 : decode cX7_reserve 161 = .ok (.iastore, 1) := by decide +kernel
theorem dX7_reserve_162 : decode cX7_reserve 162 = .ok (.aload_n 0, 1) := by decide +kernel
theorem dX7_reserve_163 : decode cX7_reserve 163 = .ok (.getfield 13, 3) := by decide +kernel
theorem dX7_reserve_166 : decode cX7_reserve 166 = .ok (.iload 6, 2) := by decide +kernel
theorem dX7_reserve_168 : decode cX7_reserve 168 = .ok (.bipush 35, 2) := by decide +kernel
theorem dX7_reserve_170 : decode cX7_reserve 170 = .ok (.iadd, 1) := by decide +kernel
theorem dX7_reserve_171 : decode cX7_reserve 171 = .ok (.iconst 0, 1) := by decide +kernel
theorem dX7_reserve_172 : decode cX7_reserve 172 = .ok (.iastore, 1) := by decide +kernel
theorem dX7_reserve_173 : decode cX7_reserve 173 = .ok (.aload_n 0, 1) := by decide +kernel
theorem dX7_reserve_174 : decode cX7_reserve 174 = .ok (.getfield 13, 3) := by decide +kernel
theorem dX7_reserve_177 : decode cX7_reserve 177 = .ok (.iload 6, 2) := by decide +kernel
theorem dX7_reserve_179 : decode cX7_reserve 179 = .ok (.bipush 36, 2) := by decide +kernel
theorem dX7_reserve_181 : decode cX7_reserve 181 = .ok (.iadd, 1) := by decide +kernel
theorem dX7_reserve_182 : decode cX7_reserve 182 = .ok (.iconst 0, 1) := by decide +kernel
theorem dX7_reserve_183 : decode cX7_reserve 183 = .ok (.iastore, 1) := by decide +kernel
theorem dX7_reserve_184 : decode cX7_reserve 184 = .ok (.aload_n 0, 1) := by decide +kernel
theorem dX7_reserve_185 : decode cX7_reserve 185 = .ok (.iload 7, 2) := by decide +kernel
theorem dX7_reserve_187 : decode cX7_reserve 187 = .ok (.invokevirtual 68, 3) := by decide +kernel
theorem dX7_reserve_190 : decode cX7_reserve 190 = .ok (.ireturn, 1) := by decide +kernel
theorem dX7_sniff_0 : decode cX7_sniff 0 = .ok (.aload_n 0, 1) := by decide +kernel
theorem dX7_sniff_1 : decode cX7_sniff 1 = .ok (.iconst 0, 1) := by decide +kernel
theorem dX7_sniff_2 : decode cX7_sniff 2 = .ok (.putfield 50, 3) := by decide +kernel
theorem dX7_sniff_5 : decode cX7_sniff 5 = .ok (.iload_n 3, 1) := by decide +kernel
theorem dX7_sniff_6 : decode cX7_sniff 6 = .ok (.ifCond .eq 33, 3) := by decide +kernel
theorem dX7_sniff_9 : decode cX7_sniff 9 = .ok (.iload_n 3, 1) := by decide +kernel
theorem dX7_sniff_10 : decode cX7_sniff 10 = .ok (.bipush 8, 2) := by decide +kernel
theorem dX7_sniff_12 : decode cX7_sniff 12 = .ok (.bipush 64, 2) := by decide +kernel
theorem dX7_sniff_14 : decode cX7_sniff 14 = .ok (.invokestatic 149, 3) := by decide +kernel
theorem dX7_sniff_17 : decode cX7_sniff 17 = .ok (.ifCond .eq 16, 3) := by decide +kernel
theorem dX7_sniff_20 : decode cX7_sniff 20 = .ok (.iload 4, 2) := by decide +kernel
theorem dX7_sniff_22 : decode cX7_sniff 22 = .ok (.i2l, 1) := by decide +kernel
theorem dX7_sniff_23 : decode cX7_sniff 23 = .ok (.lconst 1, 1) := by decide +kernel
theorem dX7_sniff_24 : decode cX7_sniff 24 = .ok (.ldc2_w 141, 3) := by decide +kernel
theorem dX7_sniff_27 : decode cX7_sniff 27 = .ok (.invokestatic 71, 3) := by decide +kernel
theorem dX7_sniff_30 : decode cX7_sniff 30 = .ok (.ifCond .ne 9, 3) := by decide +kernel
theorem dX7_sniff_33 : decode cX7_sniff 33 = .ok (.aload_n 0, 1) := by decide +kernel
theorem dX7_sniff_34 : decode cX7_sniff 34 = .ok (.iconst (-1), 1) := by decide +kernel
theorem dX7_sniff_35 : decode cX7_sniff 35 = .ok (.invokevirtual 64, 3) := by decide +kernel
theorem dX7_sniff_38 : decode cX7_sniff 38 = .ok (.ireturn, 1) := by decide +kernel
theorem dX7_sniff_39 : decode cX7_sniff 39 = .ok (.aload_n 0, 1) := by decide +kernel
theorem dX7_sniff_40 : decode cX7_sniff 40 = .ok (.iload_n 1, 1) := by decide +kernel
theorem dX7_sniff_41 : decode cX7_sniff 41 = .ok (.iload_n 2, 1) := by decide +kernel
theorem dX7_sniff_42 : decode cX7_sniff 42 = .ok (.invokevirtual 106, 3) := by decide +kernel
theorem dX7_sniff_45 : decode cX7_sniff 45 = .ok (.ifCond .ne 10, 3) := by decide +kernel
theorem dX7_sniff_48 : decode cX7_sniff 48 = .ok (.aload_n 0, 1) := by decide +kernel
theorem dX7_sniff_49 : decode cX7_sniff 49 = .ok (.bipush (-2), 2) := by decide +kernel
theorem dX7_sniff_51 : decode cX7_sniff 51 = .ok (.invokevirtual 64, 3) := by decide +kernel
theorem dX7_sniff_54 : decode cX7_sniff 54 = .ok (.ireturn, 1) := by decide +kernel
theorem dX7_sniff_55 : decode cX7_sniff 55 = .ok (.aload_n 0, 1) := by decide +kernel
theorem dX7_sniff_56 : decode cX7_sniff 56 = .ok (.bipush 10, 2) := by decide +kernel
theorem dX7_sniff_58 : decode cX7_sniff 58 = .ok (.invokevirtual 118, 3) := by decide +kernel
theorem dX7_sniff_61 : decode cX7_sniff 61 = .ok (.iload_n 1, 1) := by decide +kernel
theorem dX7_sniff_62 : decode cX7_sniff 62 = .ok (.iload_n 2, 1) := by decide +kernel
theorem dX7_sniff_63 : decode cX7_sniff 63 = .ok (.invokestatic 82, 3) := by decide +kernel
theorem dX7_sniff_66 : decode cX7_sniff 66 = .ok (.istore 5, 2) := by decide +kernel
theorem dX7_sniff_68 : decode cX7_sniff 68 = .ok (.aload_n 0, 1) := by decide +kernel
theorem dX7_sniff_69 : decode cX7_sniff 69 = .ok (.getfield 13, 3) := by decide +kernel
theorem dX7_sniff_72 : decode cX7_sniff 72 = .ok (.iload 5, 2) := by decide +kernel
theorem dX7_sniff_74 : decode cX7_sniff 74 = .ok (.bipush 40, 2) := by decide +kernel
theorem dX7_sniff_76 : decode cX7_sniff 76 = .ok (.iadd, 1) := by decide +kernel
theorem dX7_sniff_77 : decode cX7_sniff 77 = .ok (.iaload, 1) := by decide +kernel
theorem dX7_sniff_78 : decode cX7_sniff 78 = .ok (.istore 6, 2) := by decide +kernel
theorem dX7_sniff_80 : decode cX7_sniff 80 = .ok (.aload_n 0, 1) := by decide +kernel
theorem dX7_sniff_81 : decode cX7_sniff 81 = .ok (.getfield 13, 3) := by decide +kernel
theorem dX7_sniff_84 : decode cX7_sniff 84 = .ok (.iload 5, 2) := by decide +kernel
theorem dX7_sniff_86 : decode cX7_sniff 86 = .ok (.bipush 40, 2) := by decide +kernel
theorem dX7_sniff_88 : decode cX7_sniff 88 = .ok (.iadd, 1) := by decide +kernel
theorem dX7_sniff_89 : decode cX7_sniff 89 = .ok (.iload_n 3, 1) := by decide +kernel
theorem dX7_sniff_90 : decode cX7_sniff 90 = .ok (.iastore, 1) := by decide +kernel
theorem dX7_sniff_91 : decode cX7_sniff 91 = .ok (.aload_n 0, 1) := by decide +kernel
theorem dX7_sniff_92 : decode cX7_sniff 92 = .ok (.getfield 13, 3) := by decide +kernel
theorem dX7_sniff_95 : decode cX7_sniff 95 = .ok (.iload 5, 2) := by decide +kernel
theorem dX7_sniff_97 : decode cX7_sniff 97 = .ok (.bipush 41, 2) := by decide +kernel
theorem dX7_sniff_99 : decode cX7_sniff 99 = .ok (.iadd, 1) := by decide +kernel
theorem dX7_sniff_100 : decode cX7_sniff 100 = .ok (.iload_n 3, 1) := by decide +kernel
theorem dX7_sniff_101 : decode cX7_sniff 101 = .ok (.ifCond .le 8, 3) := by decide +kernel
theorem dX7_sniff_104 : decode cX7_sniff 104 = .ok (.iload 4, 2) := by decide +kernel
theorem dX7_sniff_106 : decode cX7_sniff 106 = .ok (.goto 4, 3) := by decide +kernel
theorem dX7_sniff_109 : decode cX7_sniff 109 = .ok (.iconst 0, 1) := by decide +kernel
theorem dX7_sniff_110 : decode cX7_sniff 110 = .ok (.iastore, 1) := by decide +kernel
theorem dX7_sniff_111 : decode cX7_sniff 111 = .ok (.aload_n 0, 1) := by decide +kernel
theorem dX7_sniff_112 : decode cX7_sniff 112 = .ok (.iload 6, 2) := by decide +kernel
theorem dX7_sniff_114 : decode cX7_sniff 114 = .ok (.invokevirtual 68, 3) := by decide +kernel
theorem dX7_sniff_117 : decode cX7_sniff 117 = .ok (.ireturn, 1) := by decide +kernel
theorem dX7_weigh_0 : decode cX7_weigh 0 = .ok (.aload_n 0, 1) := by decide +kernel
theorem dX7_weigh_1 : decode cX7_weigh 1 = .ok (.iconst 0, 1) := by decide +kernel
theorem dX7_weigh_2 : decode cX7_weigh 2 = .ok (.putfield 50, 3) := by decide +kernel
theorem dX7_weigh_5 : decode cX7_weigh 5 = .ok (.iload_n 3, 1) := by decide +kernel
theorem dX7_weigh_6 : decode cX7_weigh 6 = .ok (.i2l, 1) := by decide +kernel
theorem dX7_weigh_7 : decode cX7_weigh 7 = .ok (.lconst 1, 1) := by decide +kernel
theorem dX7_weigh_8 : decode cX7_weigh 8 = .ok (.ldc2_w 141, 3) := by decide +kernel
theorem dX7_weigh_11 : decode cX7_weigh 11 = .ok (.invokestatic 71, 3) := by decide +kernel
theorem dX7_weigh_14 : decode cX7_weigh 14 = .ok (.ifCond .ne 9, 3) := by decide +kernel
theorem dX7_weigh_17 : decode cX7_weigh 17 = .ok (.aload_n 0, 1) := by decide +kernel
theorem dX7_weigh_18 : decode cX7_weigh 18 = .ok (.iconst (-1), 1) := by decide +kernel
theorem dX7_weigh_19 : decode cX7_weigh 19 = .ok (.invokevirtual 64, 3) := by decide +kernel
theorem dX7_weigh_22 : decode cX7_weigh 22 = .ok (.ireturn, 1) := by decide +kernel
theorem dX7_weigh_23 : decode cX7_weigh 23 = .ok (.aload_n 0, 1) := by decide +kernel
theorem dX7_weigh_24 : decode cX7_weigh 24 = .ok (.iload_n 1, 1) := by decide +kernel
theorem dX7_weigh_25 : decode cX7_weigh 25 = .ok (.iload_n 2, 1) := by decide +kernel
theorem dX7_weigh_26 : decode cX7_weigh 26 = .ok (.invokevirtual 106, 3) := by decide +kernel
theorem dX7_weigh_29 : decode cX7_weigh 29 = .ok (.ifCond .ne 10, 3) := by decide +kernel
theorem dX7_weigh_32 : decode cX7_weigh 32 = .ok (.aload_n 0, 1) := by decide +kernel
theorem dX7_weigh_33 : decode cX7_weigh 33 = .ok (.bipush (-2), 2) := by decide +kernel
theorem dX7_weigh_35 : decode cX7_weigh 35 = .ok (.invokevirtual 64, 3) := by decide +kernel
theorem dX7_weigh_38 : decode cX7_weigh 38 = .ok (.ireturn, 1) := by decide +kernel
theorem dX7_weigh_39 : decode cX7_weigh 39 = .ok (.aload_n 0, 1) := by decide +kernel
theorem dX7_weigh_40 : decode cX7_weigh 40 = .ok (.bipush 12, 2) := by decide +kernel
theorem dX7_weigh_42 : decode cX7_weigh 42 = .ok (.invokevirtual 118, 3) := by decide +kernel
theorem dX7_weigh_45 : decode cX7_weigh 45 = .ok (.iload_n 1, 1) := by decide +kernel
theorem dX7_weigh_46 : decode cX7_weigh 46 = .ok (.iload_n 2, 1) := by decide +kernel
theorem dX7_weigh_47 : decode cX7_weigh 47 = .ok (.invokestatic 82, 3) := by decide +kernel
theorem dX7_weigh_50 : decode cX7_weigh 50 = .ok (.istore 4, 2) := by decide +kernel
theorem dX7_weigh_52 : decode cX7_weigh 52 = .ok (.aload_n 0, 1) := by decide +kernel
theorem dX7_weigh_53 : decode cX7_weigh 53 = .ok (.getfield 13, 3) := by decide +kernel
theorem dX7_weigh_56 : decode cX7_weigh 56 = .ok (.iload 4, 2) := by decide +kernel
theorem dX7_weigh_58 : decode cX7_weigh 58 = .ok (.bipush 48, 2) := by decide +kernel
theorem dX7_weigh_60 : decode cX7_weigh 60 = .ok (.iadd, 1) := by decide +kernel
theorem dX7_weigh_61 : decode cX7_weigh 61 = .ok (.iaload, 1) := by decide +kernel
theorem dX7_weigh_62 : decode cX7_weigh 62 = .ok (.istore 5, 2) := by decide +kernel
theorem dX7_weigh_64 : decode cX7_weigh 64 = .ok (.aload_n 0, 1) := by decide +kernel
theorem dX7_weigh_65 : decode cX7_weigh 65 = .ok (.getfield 13, 3) := by decide +kernel
theorem dX7_weigh_68 : decode cX7_weigh 68 = .ok (.iload 4, 2) := by decide +kernel
theorem dX7_weigh_70 : decode cX7_weigh 70 = .ok (.bipush 48, 2) := by decide +kernel
theorem dX7_weigh_72 : decode cX7_weigh 72 = .ok (.iadd, 1) := by decide +kernel
theorem dX7_weigh_73 : decode cX7_weigh 73 = .ok (.iload_n 3, 1) := by decide +kernel
theorem dX7_weigh_74 : decode cX7_weigh 74 = .ok (.iastore, 1) := by decide +kernel
theorem dX7_weigh_75 : decode cX7_weigh 75 = .ok (.aload_n 0, 1) := by decide +kernel
theorem dX7_weigh_76 : decode cX7_weigh 76 = .ok (.iload 5, 2) := by decide +kernel
theorem dX7_weigh_78 : decode cX7_weigh 78 = .ok (.invokevirtual 68, 3) := by decide +kernel
theorem dX7_weigh_81 : decode cX7_weigh 81 = .ok (.ireturn, 1) := by decide +kernel
theorem dX7_cast_0 : decode cX7_cast 0 = .ok (.aload_n 0, 1) := by decide +kernel
theorem dX7_cast_1 : decode cX7_cast 1 = .ok (.iconst 0, 1) := by decide +kernel
theorem dX7_cast_2 : decode cX7_cast 2 = .ok (.putfield 50, 3) := by decide +kernel
theorem dX7_cast_5 : decode cX7_cast 5 = .ok (.iload_n 2, 1) := by decide +kernel
theorem dX7_cast_6 : decode cX7_cast 6 = .ok (.i2l, 1) := by decide +kernel
theorem dX7_cast_7 : decode cX7_cast 7 = .ok (.lconst 0, 1) := by decide +kernel
theorem dX7_cast_8 : decode cX7_cast 8 = .ok (.ldc2_w 143, 3) := by decide +kernel
theorem dX7_cast_11 : decode cX7_cast 11 = .ok (.invokestatic 71, 3) := by decide +kernel
theorem dX7_cast_14 : decode cX7_cast 14 = .ok (.ifCond .ne 9, 3) := by decide +kernel
theorem dX7_cast_17 : decode cX7_cast 17 = .ok (.aload_n 0, 1) := by decide +kernel
theorem dX7_cast_18 : decode cX7_cast 18 = .ok (.iconst (-1), 1) := by decide +kernel
theorem dX7_cast_19 : decode cX7_cast 19 = .ok (.invokevirtual 64, 3) := by decide +kernel
theorem dX7_cast_22 : decode cX7_cast 22 = .ok (.ireturn, 1) := by decide +kernel
theorem dX7_cast_23 : decode cX7_cast 23 = .ok (.aload_n 0, 1) := by decide +kernel
theorem dX7_cast_24 : decode cX7_cast 24 = .ok (.iload_n 1, 1) := by decide +kernel
theorem dX7_cast_25 : decode cX7_cast 25 = .ok (.invokevirtual 78, 3) := by decide +kernel
theorem dX7_cast_28 : decode cX7_cast 28 = .ok (.ifCond .ne 10, 3) := by decide +kernel
theorem dX7_cast_31 : decode cX7_cast 31 = .ok (.aload_n 0, 1) := by decide +kernel
theorem dX7_cast_32 : decode cX7_cast 32 = .ok (.bipush (-2), 2) := by decide +kernel
theorem dX7_cast_34 : decode cX7_cast 34 = .ok (.invokevirtual 64, 3) := by decide +kernel
theorem dX7_cast_37 : decode cX7_cast 37 = .ok (.ireturn, 1) := by decide +kernel
theorem dX7_cast_38 : decode cX7_cast 38 = .ok (.iload_n 1, 1) := by decide +kernel
theorem dX7_cast_39 : decode cX7_cast 39 = .ok (.invokestatic 75, 3) := by decide +kernel
theorem dX7_cast_42 : decode cX7_cast 42 = .ok (.istore_n 3, 1) := by decide +kernel
theorem dX7_cast_43 : decode cX7_cast 43 = .ok (.aload_n 0, 1) := by decide +kernel
theorem dX7_cast_44 : decode cX7_cast 44 = .ok (.getfield 13, 3) := by decide +kernel
theorem dX7_cast_47 : decode cX7_cast 47 = .ok (.iload_n 3, 1) := by decide +kernel
theorem dX7_cast_48 : decode cX7_cast 48 = .ok (.bipush 9, 2) := by decide +kernel
theorem dX7_cast_50 : decode cX7_cast 50 = .ok (.iadd, 1) := by decide +kernel
theorem dX7_cast_51 : decode cX7_cast 51 = .ok (.iaload, 1) := by decide +kernel
theorem dX7_cast_52 : decode cX7_cast 52 = .ok (.iconst 4, 1) := by decide +kernel
theorem dX7_cast_53 : decode cX7_cast 53 = .ok (.if_icmp .ne 10, 3) := by decide +kernel
theorem dX7_cast_56 : decode cX7_cast 56 = .ok (.aload_n 0, 1) := by decide +kernel
theorem dX7_cast_57 : decode cX7_cast 57 = .ok (.bipush (-5), 2) := by decide +kernel
theorem dX7_cast_59 : decode cX7_cast 59 = .ok (.invokevirtual 64, 3) := by decide +kernel
theorem dX7_cast_62 : decode cX7_cast 62 = .ok (.ireturn, 1) := by decide +kernel
theorem dX7_cast_63 : decode cX7_cast 63 = .ok (.aload_n 0, 1) := by decide +kernel
theorem dX7_cast_64 : decode cX7_cast 64 = .ok (.bipush 11, 2) := by decide +kernel
theorem dX7_cast_66 : decode cX7_cast 66 = .ok (.invokevirtual 118, 3) := by decide +kernel
theorem dX7_cast_69 : decode cX7_cast 69 = .ok (.aload_n 0, 1) := by decide +kernel
theorem dX7_cast_70 : decode cX7_cast 70 = .ok (.getfield 13, 3) := by decide +kernel
theorem dX7_cast_73 : decode cX7_cast 73 = .ok (.iload_n 3, 1) := by decide +kernel
theorem dX7_cast_74 : decode cX7_cast 74 = .ok (.bipush 10, 2) := by decide +kernel
theorem dX7_cast_76 : decode cX7_cast 76 = .ok (.iadd, 1) := by decide +kernel
theorem dX7_cast_77 : decode cX7_cast 77 = .ok (.aload_n 0, 1) := by decide +kernel
theorem dX7_cast_78 : decode cX7_cast 78 = .ok (.getfield 13, 3) := by decide +kernel
theorem dX7_cast_81 : decode cX7_cast 81 = .ok (.iload_n 3, 1) := by decide +kernel
theorem dX7_cast_82 : decode cX7_cast 82 = .ok (.bipush 9, 2) := by decide +kernel
theorem dX7_cast_84 : decode cX7_cast 84 = .ok (.iadd, 1) := by decide +kernel
theorem dX7_cast_85 : decode cX7_cast 85 = .ok (.iaload, 1) := by decide +kernel
theorem dX7_cast_86 : decode cX7_cast 86 = .ok (.iadd, 1) := by decide +kernel
theorem dX7_cast_87 : decode cX7_cast 87 = .ok (.iload_n 2, 1) := by decide +kernel
theorem dX7_cast_88 : decode cX7_cast 88 = .ok (.iastore, 1) := by decide +kernel
theorem dX7_cast_89 : decode cX7_cast 89 = .ok (.aload_n 0, 1) := by decide +kernel
theorem dX7_cast_90 : decode cX7_cast 90 = .ok (.getfield 13, 3) := by decide +kernel
theorem dX7_cast_93 : decode cX7_cast 93 = .ok (.iload_n 3, 1) := by decide +kernel
theorem dX7_cast_94 : decode cX7_cast 94 = .ok (.bipush 9, 2) := by decide +kernel
theorem dX7_cast_96 : decode cX7_cast 96 = .ok (.iadd, 1) := by decide +kernel
theorem dX7_cast_97 : decode cX7_cast 97 = .ok (.dup2, 1) := by decide +kernel
theorem dX7_cast_98 : decode cX7_cast 98 = .ok (.iaload, 1) := by decide +kernel
theorem dX7_cast_99 : decode cX7_cast 99 = .ok (.iconst 1, 1) := by decide +kernel
theorem dX7_cast_100 : decode cX7_cast 100 = .ok (.iadd, 1) := by decide +kernel
theorem dX7_cast_101 : decode cX7_cast 101 = .ok (.iastore, 1) := by decide +kernel
theorem dX7_cast_102 : decode cX7_cast 102 = .ok (.aload_n 0, 1) := by decide +kernel
theorem dX7_cast_103 : decode cX7_cast 103 = .ok (.aload_n 0, 1) := by decide +kernel
theorem dX7_cast_104 : decode cX7_cast 104 = .ok (.getfield 13, 3) := by decide +kernel
theorem dX7_cast_107 : decode cX7_cast 107 = .ok (.iload_n 3, 1) := by decide +kernel
theorem dX7_cast_108 : decode cX7_cast 108 = .ok (.bipush 9, 2) := by decide +kernel
theorem dX7_cast_110 : decode cX7_cast 110 = .ok (.iadd, 1) := by decide +kernel
theorem dX7_cast_111 : decode cX7_cast 111 = .ok (.iaload, 1) := by decide +kernel
theorem dX7_cast_112 : decode cX7_cast 112 = .ok (.invokevirtual 68, 3) := by decide +kernel
theorem dX7_cast_115 : decode cX7_cast 115 = .ok (.ireturn, 1) := by decide +kernel
theorem dX7_adapt_0 : decode cX7_adapt 0 = .ok (.aload_n 0, 1) := by decide +kernel
theorem dX7_adapt_1 : decode cX7_adapt 1 = .ok (.iconst 0, 1) := by decide +kernel
theorem dX7_adapt_2 : decode cX7_adapt 2 = .ok (.putfield 50, 3) := by decide +kernel
theorem dX7_adapt_5 : decode cX7_adapt 5 = .ok (.iload_n 2, 1) := by decide +kernel
theorem dX7_adapt_6 : decode cX7_adapt 6 = .ok (.i2l, 1) := by decide +kernel
theorem dX7_adapt_7 : decode cX7_adapt 7 = .ok (.lconst 1, 1) := by decide +kernel
theorem dX7_adapt_8 : decode cX7_adapt 8 = .ok (.ldc2_w 162, 3) := by decide +kernel
theorem dX7_adapt_11 : decode cX7_adapt 11 = .ok (.invokestatic 71, 3) := by decide +kernel
theorem dX7_adapt_14 : decode cX7_adapt 14 = .ok (.ifCond .eq 15, 3) := by decide +kernel
theorem dX7_adapt_17 : decode cX7_adapt 17 = .ok (.iload_n 3, 1) := by decide +kernel
theorem dX7_adapt_18 : decode cX7_adapt 18 = .ok (.i2l, 1) := by decide +kernel
theorem dX7_adapt_19 : decode cX7_adapt 19 = .ok (.lconst 1, 1) := by decide +kernel
theorem dX7_adapt_20 : decode cX7_adapt 20 = .ok (.ldc2_w 157, 3) := by decide +kernel
theorem dX7_adapt_23 : decode cX7_adapt 23 = .ok (.invokestatic 71, 3) := by decide +kernel
theorem dX7_adapt_26 : decode cX7_adapt 26 = .ok (.ifCond .ne 9, 3) := by decide +kernel
theorem dX7_adapt_29 : decode cX7_adapt 29 = .ok (.aload_n 0, 1) := by decide +kernel
theorem dX7_adapt_30 : decode cX7_adapt 30 = .ok (.iconst (-1), 1) := by decide +kernel
theorem dX7_adapt_31 : decode cX7_adapt 31 = .ok (.invokevirtual 64, 3) := by decide +kernel
theorem dX7_adapt_34 : decode cX7_adapt 34 = .ok (.ireturn, 1) := by decide +kernel
theorem dX7_adapt_35 : decode cX7_adapt 35 = .ok (.aload_n 0, 1) := by decide +kernel
theorem dX7_adapt_36 : decode cX7_adapt 36 = .ok (.iload_n 1, 1) := by decide +kernel
theorem dX7_adapt_37 : decode cX7_adapt 37 = .ok (.invokevirtual 78, 3) := by decide +kernel
theorem dX7_adapt_40 : decode cX7_adapt 40 = .ok (.ifCond .ne 10, 3) := by decide +kernel
theorem dX7_adapt_43 : decode cX7_adapt 43 = .ok (.aload_n 0, 1) := by decide +kernel
theorem dX7_adapt_44 : decode cX7_adapt 44 = .ok (.bipush (-2), 2) := by decide +kernel
theorem dX7_adapt_46 : decode cX7_adapt 46 = .ok (.invokevirtual 64, 3) := by decide +kernel
theorem dX7_adapt_49 : decode cX7_adapt 49 = .ok (.ireturn, 1) := by decide +kernel
theorem dX7_adapt_50 : decode cX7_adapt 50 = .ok (.iload_n 1, 1) := by decide +kernel
theorem dX7_adapt_51 : decode cX7_adapt 51 = .ok (.invokestatic 75, 3) := by decide +kernel
theorem dX7_adapt_54 : decode cX7_adapt 54 = .ok (.istore 4, 2) := by decide +kernel
theorem dX7_adapt_56 : decode cX7_adapt 56 = .ok (.aload_n 0, 1) := by decide +kernel
theorem dX7_adapt_57 : decode cX7_adapt 57 = .ok (.iload_n 1, 1) := by decide +kernel
theorem dX7_adapt_58 : decode cX7_adapt 58 = .ok (.iload_n 2, 1) := by decide +kernel
theorem dX7_adapt_59 : decode cX7_adapt 59 = .ok (.invokevirtual 164, 3) := by decide +kernel
theorem dX7_adapt_62 : decode cX7_adapt 62 = .ok (.istore 5, 2) := by decide +kernel
theorem dX7_adapt_64 : decode cX7_adapt 64 = .ok (.aload_n 0, 1) := by decide +kernel
theorem dX7_adapt_65 : decode cX7_adapt 65 = .ok (.getfield 13, 3) := by decide +kernel
theorem dX7_adapt_68 : decode cX7_adapt 68 = .ok (.iload 4, 2) := by decide +kernel
theorem dX7_adapt_70 : decode cX7_adapt 70 = .ok (.iconst 3, 1) := by decide +kernel
theorem dX7_adapt_71 : decode cX7_adapt 71 = .ok (.iadd, 1) := by decide +kernel
theorem dX7_adapt_72 : decode cX7_adapt 72 = .ok (.iaload, 1) := by decide +kernel
theorem dX7_adapt_73 : decode cX7_adapt 73 = .ok (.ifCond .ne 8, 3) := by decide +kernel
theorem dX7_adapt_76 : decode cX7_adapt 76 = .ok (.iload 5, 2) := by decide +kernel
theorem dX7_adapt_78 : decode cX7_adapt 78 = .ok (.ifCond .ne 10, 3) := by decide +kernel
theorem dX7_adapt_81 : decode cX7_adapt 81 = .ok (.aload_n 0, 1) := by decide +kernel
theorem dX7_adapt_82 : decode cX7_adapt 82 = .ok (.bipush (-4), 2) := by decide +kernel
theorem dX7_adapt_84 : decode cX7_adapt 84 = .ok (.invokevirtual 64, 3) := by decide +kernel
theorem dX7_adapt_87 : decode cX7_adapt 87 = .ok (.ireturn, 1) := by decide +kernel
theorem dX7_adapt_88 : decode cX7_adapt 88 = .ok (.aload_n 0, 1) := by decide +kernel
theorem dX7_adapt_89 : decode cX7_adapt 89 = .ok (.getfield 13, 3) := by decide +kernel
theorem dX7_adapt_92 : decode cX7_adapt 92 = .ok (.iload 4, 2) := by decide +kernel
theorem dX7_adapt_94 : decode cX7_adapt 94 = .ok (.iconst 2, 1) := by decide +kernel
theorem dX7_adapt_95 : decode cX7_adapt 95 = .ok (.iadd, 1) := by decide +kernel
theorem dX7_adapt_96 : decode cX7_adapt 96 = .ok (.iaload, 1) := by decide +kernel
theorem dX7_adapt_97 : decode cX7_adapt 97 = .ok (.iload 5, 2) := by decide +kernel
theorem dX7_adapt_99 : decode cX7_adapt 99 = .ok (.iconst (-1), 1) := by decide +kernel
theorem dX7_adapt_100 : decode cX7_adapt 100 = .ok (.ixor, 1) := by decide +kernel
theorem dX7_adapt_101 : decode cX7_adapt 101 = .ok (.iand, 1) := by decide +kernel
theorem dX7_adapt_102 : decode cX7_adapt 102 = .ok (.istore 6, 2) := by decide +kernel
theorem dX7_adapt_104 : decode cX7_adapt 104 = .ok (.iload 6, 2) := by decide +kernel
theorem dX7_adapt_106 : decode cX7_adapt 106 = .ok (.invokestatic 93, 3) := by decide +kernel
theorem dX7_adapt_109 : decode cX7_adapt 109 = .ok (.bipush 8, 2) := by decide +kernel
theorem dX7_adapt_111 : decode cX7_adapt 111 = .ok (.if_icmp .ge 66, 3) := by decide +kernel
theorem dX7_adapt_114 : decode cX7_adapt 114 = .ok (.iconst 0, 1) := by decide +kernel
theorem dX7_adapt_115 : decode cX7_adapt 115 = .ok (.istore 6, 2) := by decide +kernel
theorem dX7_adapt_117 : decode cX7_adapt 117 = .ok (.iconst 0, 1) := by decide +kernel
theorem dX7_adapt_118 : decode cX7_adapt 118 = .ok (.istore 7, 2) := by decide +kernel
theorem dX7_adapt_120 : decode cX7_adapt 120 = .ok (.iload 7, 2) := by decide +kernel
theorem dX7_adapt_122 : decode cX7_adapt 122 = .ok (.bipush 23, 2) := by decide +kernel
theorem dX7_adapt_124 : decode cX7_adapt 124 = .ok (.if_icmp .ge 53, 3) := by decide +kernel
theorem dX7_adapt_127 : decode cX7_adapt 127 = .ok (.iload 6, 2) := by decide +kernel
theorem dX7_adapt_129 : decode cX7_adapt 129 = .ok (.aload_n 0, 1) := by decide +kernel
theorem dX7_adapt_130 : decode cX7_adapt 130 = .ok (.getfield 13, 3) := by decide +kernel
theorem dX7_adapt_133 : decode cX7_adapt 133 = .ok (.iload 4, 2) := by decide +kernel
theorem dX7_adapt_135 : decode cX7_adapt 135 = .ok (.iconst 2, 1) := by decide +kernel
theorem dX7_adapt_136 : decode cX7_adapt 136 = .ok (.iadd, 1) := by decide +kernel
theorem dX7_adapt_137 : decode cX7_adapt 137 = .ok (.iaload, 1) := by decide +kernel
theorem dX7_adapt_138 : decode cX7_adapt 138 = .ok (.iload 7, 2) := by decide +kernel
theorem dX7_adapt_140 : decode cX7_adapt 140 = .ok (.ishr, 1) := by decide +kernel
theorem dX7_adapt_141 : decode cX7_adapt 141 = .ok (.iconst 1, 1) := by decide +kernel
theorem dX7_adapt_142 : decode cX7_adapt 142 = .ok (.iand, 1) := by decide +kernel
theorem dX7_adapt_143 : decode cX7_adapt 143 = .ok (.iconst 1, 1) := by decide +kernel
theorem dX7_adapt_144 : decode cX7_adapt 144 = .ok (.if_icmp .ne 23, 3) := by decide +kernel
theorem dX7_adapt_147 : decode cX7_adapt 147 = .ok (.aload_n 0, 1) := by decide +kernel
theorem dX7_adapt_148 : decode cX7_adapt 148 = .ok (.iload 4, 2) := by decide +kernel
theorem dX7_adapt_150 : decode cX7_adapt 150 = .ok (.iload 7, 2) := by decide +kernel
theorem dX7_adapt_152 : decode cX7_adapt 152 = .ok (.invokevirtual 167, 3) := by decide +kernel
theorem dX7_adapt_155 : decode cX7_adapt 155 = .ok (.bipush 8, 2) := by decide +kernel
theorem dX7_adapt_157 : decode cX7_adapt 157 = .ok (.if_icmp .ge 10, 3) := by decide +kernel
theorem dX7_adapt_160 : decode cX7_adapt 160 = .ok (.iconst 1, 1) := by decide +kernel
theorem dX7_adapt_161 : decode cX7_adapt 161 = .ok (.iload 7, 2) := by decide +kernel
theorem dX7_adapt_163 : decode cX7_adapt 163 = .ok (.ishl, 1) := by decide +kernel
theorem dX7_adapt_164 : decode cX7_adapt 164 = .ok (.goto 4, 3) := by decide +kernel
theorem dX7_adapt_167 : decode cX7_adapt 167 = .ok (.iconst 0, 1) := by decide +kernel
theorem dX7_adapt_168 : decode cX7_adapt 168 = .ok (.ior, 1) := by decide +kernel
theorem dX7_adapt_169 : decode cX7_adapt 169 = .ok (.istore 6, 2) := by decide +kernel
theorem dX7_adapt_171 : decode cX7_adapt 171 = .ok (.iinc 7 1, 3) := by decide +kernel
theorem dX7_adapt_174 : decode cX7_adapt 174 = .ok (.goto (-54), 3) := by decide +kernel
theorem dX7_adapt_177 : decode cX7_adapt 177 = .ok (.aload_n 0, 1) := by decide +kernel
theorem dX7_adapt_178 : decode cX7_adapt 178 = .ok (.iload_n 1, 1) := by decide +kernel
theorem dX7_adapt_179 : decode cX7_adapt 179 = .ok (.iload 6, 2) := by decide +kernel
theorem dX7_adapt_181 : decode cX7_adapt 181 = .ok (.iload_n 3, 1) := by decide +kernel
theorem dX7_adapt_182 : decode cX7_adapt 182 = .ok (.invokevirtual 159, 3) := by decide +kernel
theorem dX7_adapt_185 : decode cX7_adapt 185 = .ok (.ireturn, 1) := by decide +kernel
theorem dX7_run_0 : decode cX7_run 0 = .ok (.aload_n 0, 1) := by decide +kernel
theorem dX7_run_1 : decode cX7_run 1 = .ok (.iconst 0, 1) := by decide +kernel
theorem dX7_run_2 : decode cX7_run 2 = .ok (.putfield 50, 3) := by decide +kernel
theorem dX7_run_5 : decode cX7_run 5 = .ok (.iload_n 1, 1) := by decide +kernel
theorem dX7_run_6 : decode cX7_run 6 = .ok (.i2l, 1) := by decide +kernel
theorem dX7_run_7 : decode cX7_run 7 = .ok (.lconst 1, 1) := by decide +kernel
theorem dX7_run_8 : decode cX7_run 8 = .ok (.ldc2_w 239, 3) := by decide +kernel
theorem dX7_run_11 : decode cX7_run 11 = .ok (.invokestatic 71, 3) := by decide +kernel
theorem dX7_run_14 : decode cX7_run 14 = .ok (.ifCond .ne 9, 3) := by decide +kernel
theorem dX7_run_17 : decode cX7_run 17 = .ok (.aload_n 0, 1) := by decide +kernel
theorem dX7_run_18 : decode cX7_run 18 = .ok (.iconst (-1), 1) := by decide +kernel
theorem dX7_run_19 : decode cX7_run 19 = .ok (.invokevirtual 64, 3) := by decide +kernel
theorem dX7_run_22 : decode cX7_run 22 = .ok (.ireturn, 1) := by decide +kernel
theorem dX7_run_23 : decode cX7_run 23 = .ok (.aload_n 0, 1) := by decide +kernel
theorem dX7_run_24 : decode cX7_run 24 = .ok (.getfield 13, 3) := by decide +kernel
theorem dX7_run_27 : decode cX7_run 27 = .ok (.bipush 7, 2) := by decide +kernel
theorem dX7_run_29 : decode cX7_run 29 = .ok (.iaload, 1) := by decide +kernel
theorem dX7_run_30 : decode cX7_run 30 = .ok (.iconst 2, 1) := by decide +kernel
theorem dX7_run_31 : decode cX7_run 31 = .ok (.iload_n 1, 1) := by decide +kernel
theorem dX7_run_32 : decode cX7_run 32 = .ok (.imul, 1) := by decide +kernel
theorem dX7_run_33 : decode cX7_run 33 = .ok (.iadd, 1) := by decide +kernel
theorem dX7_run_34 : decode cX7_run 34 = .ok (.ldc 241, 2) := by decide +kernel
theorem dX7_run_36 : decode cX7_run 36 = .ok (.if_icmp .le 10, 3) := by decide +kernel
theorem dX7_run_39 : decode cX7_run 39 = .ok (.aload_n 0, 1) := by decide +kernel
theorem dX7_run_40 : decode cX7_run 40 = .ok (.bipush (-4), 2) := by decide +kernel
theorem dX7_run_42 : decode cX7_run 42 = .ok (.invokevirtual 64, 3) := by decide +kernel
theorem dX7_run_45 : decode cX7_run 45 = .ok (.ireturn, 1) := by decide +kernel
theorem dX7_run_46 : decode cX7_run 46 = .ok (.aload_n 0, 1) := by decide +kernel
theorem dX7_run_47 : decode cX7_run 47 = .ok (.bipush 9, 2) := by decide +kernel
theorem dX7_run_49 : decode cX7_run 49 = .ok (.invokevirtual 118, 3) := by decide +kernel
theorem dX7_run_52 : decode cX7_run 52 = .ok (.aload_n 0, 1) := by decide +kernel
theorem dX7_run_53 : decode cX7_run 53 = .ok (.iload_n 1, 1) := by decide +kernel
theorem dX7_run_54 : decode cX7_run 54 = .ok (.invokevirtual 242, 3) := by decide +kernel
theorem dX7_run_57 : decode cX7_run 57 = .ok (.aload_n 0, 1) := by decide +kernel
theorem dX7_run_58 : decode cX7_run 58 = .ok (.aload_n 0, 1) := by decide +kernel
theorem dX7_run_59 : decode cX7_run 59 = .ok (.getfield 189, 3) := by decide +kernel
theorem dX7_run_62 : decode cX7_run 62 = .ok (.invokevirtual 68, 3) := by decide +kernel
theorem dX7_run_65 : decode cX7_run 65 = .ok (.ireturn, 1) := by decide +kernel
theorem dX7_undo_0 : decode cX7_undo 0 = .ok (.aload_n 0, 1) := by decide +kernel
theorem dX7_undo_1 : decode cX7_undo 1 = .ok (.iconst 0, 1) := by decide +kernel
theorem dX7_undo_2 : decode cX7_undo 2 = .ok (.putfield 50, 3) := by decide +kernel
theorem dX7_undo_5 : decode cX7_undo 5 = .ok (.aload_n 0, 1) := by decide +kernel
theorem dX7_undo_6 : decode cX7_undo 6 = .ok (.getfield 57, 3) := by decide +kernel
theorem dX7_undo_9 : decode cX7_undo 9 = .ok (.ifCond .ne 10, 3) := by decide +kernel
theorem dX7_undo_12 : decode cX7_undo 12 = .ok (.aload_n 0, 1) := by decide +kernel
theorem dX7_undo_13 : decode cX7_undo 13 = .ok (.bipush (-4), 2) := by decide +kernel
theorem dX7_undo_15 : decode cX7_undo 15 = .ok (.invokevirtual 64, 3) := by decide +kernel
theorem dX7_undo_18 : decode cX7_undo 18 = .ok (.ireturn, 1) := by decide +kernel
theorem dX7_undo_19 : decode cX7_undo 19 = .ok (.aload_n 0, 1) := by decide +kernel
theorem dX7_undo_20 : decode cX7_undo 20 = .ok (.dup, 1) := by decide +kernel
theorem dX7_undo_21 : decode cX7_undo 21 = .ok (.getfield 57, 3) := by decide +kernel
theorem dX7_undo_24 : decode cX7_undo 24 = .ok (.iconst 1, 1) := by decide +kernel
theorem dX7_undo_25 : decode cX7_undo 25 = .ok (.isub, 1) := by decide +kernel
theorem dX7_undo_26 : decode cX7_undo 26 = .ok (.putfield 57, 3) := by decide +kernel
theorem dX7_undo_29 : decode cX7_undo 29 = .ok (.aload_n 0, 1) := by decide +kernel
theorem dX7_undo_30 : decode cX7_undo 30 = .ok (.getfield 16, 3) := by decide +kernel
theorem dX7_undo_33 : decode cX7_undo 33 = .ok (.sipush 695, 3) := by decide +kernel
theorem dX7_undo_36 : decode cX7_undo 36 = .ok (.aload_n 0, 1) := by decide +kernel
theorem dX7_undo_37 : decode cX7_undo 37 = .ok (.getfield 57, 3) := by decide +kernel
theorem dX7_undo_40 : decode cX7_undo 40 = .ok (.imul, 1) := by decide +kernel
theorem dX7_undo_41 : decode cX7_undo 41 = .ok (.aload_n 0, 1) := by decide +kernel
theorem dX7_undo_42 : decode cX7_undo 42 = .ok (.getfield 13, 3) := by decide +kernel
theorem dX7_undo_45 : decode cX7_undo 45 = .ok (.iconst 0, 1) := by decide +kernel
theorem dX7_undo_46 : decode cX7_undo 46 = .ok (.invokestatic 60, 3) := by decide +kernel
theorem dX7_undo_49 : decode cX7_undo 49 = .ok (.aload_n 0, 1) := by decide +kernel
theorem dX7_undo_50 : decode cX7_undo 50 = .ok (.aload_n 0, 1) := by decide +kernel
theorem dX7_undo_51 : decode cX7_undo 51 = .ok (.getfield 19, 3) := by decide +kernel
theorem dX7_undo_54 : decode cX7_undo 54 = .ok (.aload_n 0, 1) := by decide +kernel
theorem dX7_undo_55 : decode cX7_undo 55 = .ok (.getfield 57, 3) := by decide +kernel
theorem dX7_undo_58 : decode cX7_undo 58 = .ok (.iaload, 1) := by decide +kernel
theorem dX7_undo_59 : decode cX7_undo 59 = .ok (.invokevirtual 68, 3) := by decide +kernel
theorem dX7_undo_62 : decode cX7_undo 62 = .ok (.ireturn, 1) := by decide +kernel
theorem dX7_image_0 : decode cX7_image 0 = .ok (.aload_n 0, 1) := by decide +kernel
theorem dX7_image_1 : decode cX7_image 1 = .ok (.iconst 0, 1) := by decide +kernel
theorem dX7_image_2 : decode cX7_image 2 = .ok (.putfield 50, 3) := by decide +kernel
theorem dX7_image_5 : decode cX7_image 5 = .ok (.iload_n 1, 1) := by decide +kernel
theorem dX7_image_6 : decode cX7_image 6 = .ok (.i2l, 1) := by decide +kernel
theorem dX7_image_7 : decode cX7_image 7 = .ok (.lconst 0, 1) := by decide +kernel
theorem dX7_image_8 : decode cX7_image 8 = .ok (.lconst 1, 1) := by decide +kernel
theorem dX7_image_9 : decode cX7_image 9 = .ok (.invokestatic 71, 3) := by decide +kernel
theorem dX7_image_12 : decode cX7_image 12 = .ok (.ifCond .ne 9, 3) := by decide +kernel
theorem dX7_image_15 : decode cX7_image 15 = .ok (.aload_n 0, 1) := by decide +kernel
theorem dX7_image_16 : decode cX7_image 16 = .ok (.iconst (-1), 1) := by decide +kernel
theorem dX7_image_17 : decode cX7_image 17 = .ok (.invokevirtual 64, 3) := by decide +kernel
theorem dX7_image_20 : decode cX7_image 20 = .ok (.ireturn, 1) := by decide +kernel
theorem dX7_image_21 : decode cX7_image 21 = .ok (.aload_n 0, 1) := by decide +kernel
theorem dX7_image_22 : decode cX7_image 22 = .ok (.getfield 13, 3) := by decide +kernel
theorem dX7_image_25 : decode cX7_image 25 = .ok (.iconst 0, 1) := by decide +kernel
theorem dX7_image_26 : decode cX7_image 26 = .ok (.aload_n 0, 1) := by decide +kernel
theorem dX7_image_27 : decode cX7_image 27 = .ok (.getfield 22, 3) := by decide +kernel
theorem dX7_image_30 : decode cX7_image 30 = .ok (.sipush 695, 3) := by decide +kernel
theorem dX7_image_33 : decode cX7_image 33 = .ok (.iload_n 1, 1) := by decide +kernel
theorem dX7_image_34 : decode cX7_image 34 = .ok (.imul, 1) := by decide +kernel
theorem dX7_image_35 : decode cX7_image 35 = .ok (.invokestatic 60, 3) := by decide +kernel
theorem dX7_image_38 : decode cX7_image 38 = .ok (.aload_n 0, 1) := by decide +kernel
theorem dX7_image_39 : decode cX7_image 39 = .ok (.getfield 25, 3) := by decide +kernel
theorem dX7_image_42 : decode cX7_image 42 = .ok (.iload_n 1, 1) := by decide +kernel
theorem dX7_image_43 : decode cX7_image 43 = .ok (.iconst 1, 1) := by decide +kernel
theorem dX7_image_44 : decode cX7_image 44 = .ok (.bastore, 1) := by decide +kernel
theorem dX7_image_45 : decode cX7_image 45 = .ok (.aload_n 0, 1) := by decide +kernel
theorem dX7_image_46 : decode cX7_image 46 = .ok (.aload_n 0, 1) := by decide +kernel
theorem dX7_image_47 : decode cX7_image 47 = .ok (.getfield 13, 3) := by decide +kernel
theorem dX7_image_50 : decode cX7_image 50 = .ok (.bipush 7, 2) := by decide +kernel
theorem dX7_image_52 : decode cX7_image 52 = .ok (.iaload, 1) := by decide +kernel
theorem dX7_image_53 : decode cX7_image 53 = .ok (.invokevirtual 68, 3) := by decide +kernel
theorem dX7_image_56 : decode cX7_image 56 = .ok (.ireturn, 1) := by decide +kernel
theorem dX7_back_0 : decode cX7_back 0 = .ok (.aload_n 0, 1) := by decide +kernel
theorem dX7_back_1 : decode cX7_back 1 = .ok (.iconst 0, 1) := by decide +kernel
theorem dX7_back_2 : decode cX7_back 2 = .ok (.putfield 50, 3) := by decide +kernel
theorem dX7_back_5 : decode cX7_back 5 = .ok (.iload_n 1, 1) := by decide +kernel
theorem dX7_back_6 : decode cX7_back 6 = .ok (.i2l, 1) := by decide +kernel
theorem dX7_back_7 : decode cX7_back 7 = .ok (.lconst 0, 1) := by decide +kernel
theorem dX7_back_8 : decode cX7_back 8 = .ok (.lconst 1, 1) := by decide +kernel
theorem dX7_back_9 : decode cX7_back 9 = .ok (.invokestatic 71, 3) := by decide +kernel
theorem dX7_back_12 : decode cX7_back 12 = .ok (.ifCond .ne 9, 3) := by decide +kernel
theorem dX7_back_15 : decode cX7_back 15 = .ok (.aload_n 0, 1) := by decide +kernel
theorem dX7_back_16 : decode cX7_back 16 = .ok (.iconst (-1), 1) := by decide +kernel
theorem dX7_back_17 : decode cX7_back 17 = .ok (.invokevirtual 64, 3) := by decide +kernel
theorem dX7_back_20 : decode cX7_back 20 = .ok (.ireturn, 1) := by decide +kernel
theorem dX7_back_21 : decode cX7_back 21 = .ok (.aload_n 0, 1) := by decide +kernel
theorem dX7_back_22 : decode cX7_back 22 = .ok (.getfield 25, 3) := by decide +kernel
theorem dX7_back_25 : decode cX7_back 25 = .ok (.iload_n 1, 1) := by decide +kernel
theorem dX7_back_26 : decode cX7_back 26 = .ok (.baload, 1) := by decide +kernel
theorem dX7_back_27 : decode cX7_back 27 = .ok (.ifCond .ne 10, 3) := by decide +kernel
theorem dX7_back_30 : decode cX7_back 30 = .ok (.aload_n 0, 1) := by decide +kernel
theorem dX7_back_31 : decode cX7_back 31 = .ok (.bipush (-4), 2) := by decide +kernel
theorem dX7_back_33 : decode cX7_back 33 = .ok (.invokevirtual 64, 3) := by decide +kernel
theorem dX7_back_36 : decode cX7_back 36 = .ok (.ireturn, 1) := by decide +kernel
theorem dX7_back_37 : decode cX7_back 37 = .ok (.aload_n 0, 1) := by decide +kernel
theorem dX7_back_38 : decode cX7_back 38 = .ok (.getfield 22, 3) := by decide +kernel
theorem dX7_back_41 : decode cX7_back 41 = .ok (.sipush 695, 3) := by decide +kernel
theorem dX7_back_44 : decode cX7_back 44 = .ok (.iload_n 1, 1) := by decide +kernel
theorem dX7_back_45 : decode cX7_back 45 = .ok (.imul, 1) := by decide +kernel
theorem dX7_back_46 : decode cX7_back 46 = .ok (.aload_n 0, 1) := by decide +kernel
theorem dX7_back_47 : decode cX7_back 47 = .ok (.getfield 13, 3) := by decide +kernel
theorem dX7_back_50 : decode cX7_back 50 = .ok (.iconst 0, 1) := by decide +kernel
theorem dX7_back_51 : decode cX7_back 51 = .ok (.invokestatic 60, 3) := by decide +kernel
theorem dX7_back_54 : decode cX7_back 54 = .ok (.aload_n 0, 1) := by decide +kernel
theorem dX7_back_55 : decode cX7_back 55 = .ok (.iconst 0, 1) := by decide +kernel
theorem dX7_back_56 : decode cX7_back 56 = .ok (.putfield 57, 3) := by decide +kernel
theorem dX7_back_59 : decode cX7_back 59 = .ok (.aload_n 0, 1) := by decide +kernel
theorem dX7_back_60 : decode cX7_back 60 = .ok (.aload_n 0, 1) := by decide +kernel
theorem dX7_back_61 : decode cX7_back 61 = .ok (.getfield 13, 3) := by decide +kernel
theorem dX7_back_64 : decode cX7_back 64 = .ok (.bipush 7, 2) := by decide +kernel
theorem dX7_back_66 : decode cX7_back 66 = .ok (.iaload, 1) := by decide +kernel
theorem dX7_back_67 : decode cX7_back 67 = .ok (.invokevirtual 68, 3) := by decide +kernel
theorem dX7_back_70 : decode cX7_back 70 = .ok (.ireturn, 1) := by decide +kernel
theorem dX7_hop_0 : decode cX7_hop 0 = .ok (.aload_n 0, 1) := by decide +kernel
theorem dX7_hop_1 : decode cX7_hop 1 = .ok (.iconst 0, 1) := by decide +kernel
theorem dX7_hop_2 : decode cX7_hop 2 = .ok (.putfield 50, 3) := by decide +kernel
theorem dX7_hop_5 : decode cX7_hop 5 = .ok (.aload_n 0, 1) := by decide +kernel
theorem dX7_hop_6 : decode cX7_hop 6 = .ok (.iload_n 1, 1) := by decide +kernel
theorem dX7_hop_7 : decode cX7_hop 7 = .ok (.invokevirtual 78, 3) := by decide +kernel
theorem dX7_hop_10 : decode cX7_hop 10 = .ok (.ifCond .eq 29, 3) := by decide +kernel
theorem dX7_hop_13 : decode cX7_hop 13 = .ok (.iload_n 2, 1) := by decide +kernel
theorem dX7_hop_14 : decode cX7_hop 14 = .ok (.iconst (-1), 1) := by decide +kernel
theorem dX7_hop_15 : decode cX7_hop 15 = .ok (.if_icmp .eq 12, 3) := by decide +kernel
theorem dX7_hop_18 : decode cX7_hop 18 = .ok (.aload_n 0, 1) := by decide +kernel
theorem dX7_hop_19 : decode cX7_hop 19 = .ok (.iload_n 1, 1) := by decide +kernel
theorem dX7_hop_20 : decode cX7_hop 20 = .ok (.iload_n 2, 1) := by decide +kernel
theorem dX7_hop_21 : decode cX7_hop 21 = .ok (.invokevirtual 106, 3) := by decide +kernel
theorem dX7_hop_24 : decode cX7_hop 24 = .ok (.ifCond .eq 15, 3) := by decide +kernel
theorem dX7_hop_27 : decode cX7_hop 27 = .ok (.iload_n 3, 1) := by decide +kernel
theorem dX7_hop_28 : decode cX7_hop 28 = .ok (.i2l, 1) := by decide +kernel
theorem dX7_hop_29 : decode cX7_hop 29 = .ok (.lconst 0, 1) := by decide +kernel
theorem dX7_hop_30 : decode cX7_hop 30 = .ok (.ldc2_w 109, 3) := by decide +kernel
theorem dX7_hop_33 : decode cX7_hop 33 = .ok (.invokestatic 71, 3) := by decide +kernel
theorem dX7_hop_36 : decode cX7_hop 36 = .ok (.ifCond .ne 5, 3) := by decide +kernel
theorem dX7_hop_39 : decode cX7_hop 39 = .ok (.iconst (-1), 1) := by decide +kernel
theorem dX7_hop_40 : decode cX7_hop 40 = .ok (.ireturn, 1) := by decide +kernel
theorem dX7_hop_41 : decode cX7_hop 41 = .ok (.aload_n 0, 1) := by decide +kernel
theorem dX7_hop_42 : decode cX7_hop 42 = .ok (.iload_n 1, 1) := by decide +kernel
theorem dX7_hop_43 : decode cX7_hop 43 = .ok (.iload_n 3, 1) := by decide +kernel
theorem dX7_hop_44 : decode cX7_hop 44 = .ok (.aload_n 0, 1) := by decide +kernel
theorem dX7_hop_45 : decode cX7_hop 45 = .ok (.iload_n 1, 1) := by decide +kernel
theorem dX7_hop_46 : decode cX7_hop 46 = .ok (.iload_n 2, 1) := by decide +kernel
theorem dX7_hop_47 : decode cX7_hop 47 = .ok (.invokevirtual 111, 3) := by decide +kernel
theorem dX7_hop_50 : decode cX7_hop 50 = .ok (.invokevirtual 114, 3) := by decide +kernel
theorem dX7_hop_53 : decode cX7_hop 53 = .ok (.ireturn, 1) := by decide +kernel
theorem dX7_alike_0 : decode cX7_alike 0 = .ok (.aload_n 0, 1) := by decide +kernel
theorem dX7_alike_1 : decode cX7_alike 1 = .ok (.iconst 0, 1) := by decide +kernel
theorem dX7_alike_2 : decode cX7_alike 2 = .ok (.putfield 50, 3) := by decide +kernel
theorem dX7_alike_5 : decode cX7_alike 5 = .ok (.aload_n 0, 1) := by decide +kernel
theorem dX7_alike_6 : decode cX7_alike 6 = .ok (.iload_n 1, 1) := by decide +kernel
theorem dX7_alike_7 : decode cX7_alike 7 = .ok (.iload_n 2, 1) := by decide +kernel
theorem dX7_alike_8 : decode cX7_alike 8 = .ok (.invokevirtual 106, 3) := by decide +kernel
theorem dX7_alike_11 : decode cX7_alike 11 = .ok (.ifCond .eq 15, 3) := by decide +kernel
theorem dX7_alike_14 : decode cX7_alike 14 = .ok (.iload_n 3, 1) := by decide +kernel
theorem dX7_alike_15 : decode cX7_alike 15 = .ok (.i2l, 1) := by decide +kernel
theorem dX7_alike_16 : decode cX7_alike 16 = .ok (.lconst 0, 1) := by decide +kernel
theorem dX7_alike_17 : decode cX7_alike 17 = .ok (.ldc2_w 134, 3) := by decide +kernel
theorem dX7_alike_20 : decode cX7_alike 20 = .ok (.invokestatic 71, 3) := by decide +kernel
theorem dX7_alike_23 : decode cX7_alike 23 = .ok (.ifCond .ne 5, 3) := by decide +kernel
theorem dX7_alike_26 : decode cX7_alike 26 = .ok (.iconst (-1), 1) := by decide +kernel
theorem dX7_alike_27 : decode cX7_alike 27 = .ok (.ireturn, 1) := by decide +kernel
theorem dX7_alike_28 : decode cX7_alike 28 = .ok (.iload_n 1, 1) := by decide +kernel
theorem dX7_alike_29 : decode cX7_alike 29 = .ok (.invokestatic 75, 3) := by decide +kernel
theorem dX7_alike_32 : decode cX7_alike 32 = .ok (.istore 4, 2) := by decide +kernel
theorem dX7_alike_34 : decode cX7_alike 34 = .ok (.iload_n 1, 1) := by decide +kernel
theorem dX7_alike_35 : decode cX7_alike 35 = .ok (.iload_n 2, 1) := by decide +kernel
theorem dX7_alike_36 : decode cX7_alike 36 = .ok (.invokestatic 82, 3) := by decide +kernel
theorem dX7_alike_39 : decode cX7_alike 39 = .ok (.istore 5, 2) := by decide +kernel
theorem dX7_alike_41 : decode cX7_alike 41 = .ok (.aload_n 0, 1) := by decide +kernel
theorem dX7_alike_42 : decode cX7_alike 42 = .ok (.getfield 13, 3) := by decide +kernel
theorem dX7_alike_45 : decode cX7_alike 45 = .ok (.iload 4, 2) := by decide +kernel
theorem dX7_alike_47 : decode cX7_alike 47 = .ok (.iconst 2, 1) := by decide +kernel
theorem dX7_alike_48 : decode cX7_alike 48 = .ok (.iadd, 1) := by decide +kernel
theorem dX7_alike_49 : decode cX7_alike 49 = .ok (.iaload, 1) := by decide +kernel
theorem dX7_alike_50 : decode cX7_alike 50 = .ok (.aload_n 0, 1) := by decide +kernel
theorem dX7_alike_51 : decode cX7_alike 51 = .ok (.getfield 13, 3) := by decide +kernel
theorem dX7_alike_54 : decode cX7_alike 54 = .ok (.iload 5, 2) := by decide +kernel
theorem dX7_alike_56 : decode cX7_alike 56 = .ok (.iconst 1, 1) := by decide +kernel
theorem dX7_alike_57 : decode cX7_alike 57 = .ok (.iadd, 1) := by decide +kernel
theorem dX7_alike_58 : decode cX7_alike 58 = .ok (.iaload, 1) := by decide +kernel
theorem dX7_alike_59 : decode cX7_alike 59 = .ok (.if_icmp .ne 7, 3) := by decide +kernel
theorem dX7_alike_62 : decode cX7_alike 62 = .ok (.iconst 1, 1) := by decide +kernel
theorem dX7_alike_63 : decode cX7_alike 63 = .ok (.goto 4, 3) := by decide +kernel
theorem dX7_alike_66 : decode cX7_alike 66 = .ok (.iconst 0, 1) := by decide +kernel
theorem dX7_alike_67 : decode cX7_alike 67 = .ok (.istore 6, 2) := by decide +kernel
theorem dX7_alike_69 : decode cX7_alike 69 = .ok (.aload_n 0, 1) := by decide +kernel
theorem dX7_alike_70 : decode cX7_alike 70 = .ok (.getfield 13, 3) := by decide +kernel
theorem dX7_alike_73 : decode cX7_alike 73 = .ok (.iload 4, 2) := by decide +kernel
theorem dX7_alike_75 : decode cX7_alike 75 = .ok (.iconst 3, 1) := by decide +kernel
theorem dX7_alike_76 : decode cX7_alike 76 = .ok (.iadd, 1) := by decide +kernel
theorem dX7_alike_77 : decode cX7_alike 77 = .ok (.iaload, 1) := by decide +kernel
theorem dX7_alike_78 : decode cX7_alike 78 = .ok (.aload_n 0, 1) := by decide +kernel
theorem dX7_alike_79 : decode cX7_alike 79 = .ok (.getfield 13, 3) := by decide +kernel
theorem dX7_alike_82 : decode cX7_alike 82 = .ok (.iload 5, 2) := by decide +kernel
theorem dX7_alike_84 : decode cX7_alike 84 = .ok (.iconst 2, 1) := by decide +kernel
theorem dX7_alike_85 : decode cX7_alike 85 = .ok (.iadd, 1) := by decide +kernel
theorem dX7_alike_86 : decode cX7_alike 86 = .ok (.iaload, 1) := by decide +kernel
theorem dX7_alike_87 : decode cX7_alike 87 = .ok (.if_icmp .ne 28, 3) := by decide +kernel
theorem dX7_alike_90 : decode cX7_alike 90 = .ok (.aload_n 0, 1) := by decide +kernel
theorem dX7_alike_91 : decode cX7_alike 91 = .ok (.getfield 13, 3) := by decide +kernel
theorem dX7_alike_94 : decode cX7_alike 94 = .ok (.iload 4, 2) := by decide +kernel
theorem dX7_alike_96 : decode cX7_alike 96 = .ok (.iconst 4, 1) := by decide +kernel
theorem dX7_alike_97 : decode cX7_alike 97 = .ok (.iadd, 1) := by decide +kernel
theorem dX7_alike_98 : decode cX7_alike 98 = .ok (.iaload, 1) := by decide +kernel
theorem dX7_alike_99 : decode cX7_alike 99 = .ok (.aload_n 0, 1) := by decide +kernel
theorem dX7_alike_100 : decode cX7_alike 100 = .ok (.getfield 13, 3) := by decide +kernel
theorem dX7_alike_103 : decode cX7_alike 103 = .ok (.iload 5, 2) := by decide +kernel
theorem dX7_alike_105 : decode cX7_alike 105 = .ok (.iconst 3, 1) := by decide +kernel
theorem dX7_alike_106 : decode cX7_alike 106 = .ok (.iadd, 1) := by decide +kernel
theorem dX7_alike_107 : decode cX7_alike 107 = .ok (.iaload, 1) := by decide +kernel
theorem dX7_alike_108 : decode cX7_alike 108 = .ok (.if_icmp .ne 7, 3) := by decide +kernel
theorem dX7_alike_111 : decode cX7_alike 111 = .ok (.iconst 1, 1) := by decide +kernel
theorem dX7_alike_112 : decode cX7_alike 112 = .ok (.goto 4, 3) := by decide +kernel
theorem dX7_alike_115 : decode cX7_alike 115 = .ok (.iconst 0, 1) := by decide +kernel
theorem dX7_alike_116 : decode cX7_alike 116 = .ok (.istore 7, 2) := by decide +kernel
theorem dX7_alike_118 : decode cX7_alike 118 = .ok (.iload_n 3, 1) := by decide +kernel
theorem dX7_alike_119 : decode cX7_alike 119 = .ok (.ifCond .ne 16, 3) := by decide +kernel
theorem dX7_alike_122 : decode cX7_alike 122 = .ok (.iload 6, 2) := by decide +kernel
theorem dX7_alike_124 : decode cX7_alike 124 = .ok (.ifCond .eq 41, 3) := by decide +kernel
theorem dX7_alike_127 : decode cX7_alike 127 = .ok (.iload 7, 2) := by decide +kernel
theorem dX7_alike_129 : decode cX7_alike 129 = .ok (.ifCond .eq 36, 3) := by decide +kernel
theorem dX7_alike_132 : decode cX7_alike 132 = .ok (.goto 29, 3) := by decide +kernel
theorem dX7_alike_135 : decode cX7_alike 135 = .ok (.iload_n 3, 1) := by decide +kernel
theorem dX7_alike_136 : decode cX7_alike 136 = .ok (.iconst 1, 1) := by decide +kernel
theorem dX7_alike_137 : decode cX7_alike 137 = .ok (.if_icmp .ne 11, 3) := by decide +kernel
theorem dX7_alike_140 : decode cX7_alike 140 = .ok (.iload 6, 2) := by decide +kernel
theorem dX7_alike_142 : decode cX7_alike 142 = .ok (.ifCond .eq 23, 3) := by decide +kernel
theorem dX7_alike_145 : decode cX7_alike 145 = .ok (.goto 16, 3) := by decide +kernel
theorem dX7_alike_148 : decode cX7_alike 148 = .ok (.aload_n 0, 1) := by decide +kernel
theorem dX7_alike_149 : decode cX7_alike 149 = .ok (.getfield 13, 3) := by decide +kernel
theorem dX7_alike_152 : decode cX7_alike 152 = .ok (.iload 5, 2) := by decide +kernel
theorem dX7_alike_154 : decode cX7_alike 154 = .ok (.iconst 4, 1) := by decide +kernel
theorem dX7_alike_155 : decode cX7_alike 155 = .ok (.iadd, 1) := by decide +kernel
theorem dX7_alike_156 : decode cX7_alike 156 = .ok (.iaload, 1) := by decide +kernel
theorem dX7_alike_157 : decode cX7_alike 157 = .ok (.iconst 1, 1) := by decide +kernel
theorem dX7_alike_158 : decode cX7_alike 158 = .ok (.if_icmp .ne 7, 3) := by decide +kernel
theorem dX7_alike_161 : decode cX7_alike 161 = .ok (.iconst 1, 1) := by decide +kernel
theorem dX7_alike_162 : decode cX7_alike 162 = .ok (.goto 4, 3) := by decide +kernel
theorem dX7_alike_165 : decode cX7_alike 165 = .ok (.iconst 0, 1) := by decide +kernel
theorem dX7_alike_166 : decode cX7_alike 166 = .ok (.ireturn, 1) := by decide +kernel
theorem dX7_mapOf_0 : decode cX7_mapOf 0 = .ok (.aload_n 0, 1) := by decide +kernel
theorem dX7_mapOf_1 : decode cX7_mapOf 1 = .ok (.iconst 0, 1) := by decide +kernel
theorem dX7_mapOf_2 : decode cX7_mapOf 2 = .ok (.putfield 50, 3) := by decide +kernel
theorem dX7_mapOf_5 : decode cX7_mapOf 5 = .ok (.aload_n 0, 1) := by decide +kernel
theorem dX7_mapOf_6 : decode cX7_mapOf 6 = .ok (.iload_n 1, 1) := by decide +kernel
theorem dX7_mapOf_7 : decode cX7_mapOf 7 = .ok (.invokevirtual 78, 3) := by decide +kernel
theorem dX7_mapOf_10 : decode cX7_mapOf 10 = .ok (.ifCond .eq 40, 3) := by decide +kernel
theorem dX7_mapOf_13 : decode cX7_mapOf 13 = .ok (.iload_n 2, 1) := by decide +kernel
theorem dX7_mapOf_14 : decode cX7_mapOf 14 = .ok (.iconst (-1), 1) := by decide +kernel
theorem dX7_mapOf_15 : decode cX7_mapOf 15 = .ok (.if_icmp .eq 12, 3) := by decide +kernel
theorem dX7_mapOf_18 : decode cX7_mapOf 18 = .ok (.aload_n 0, 1) := by decide +kernel
theorem dX7_mapOf_19 : decode cX7_mapOf 19 = .ok (.iload_n 1, 1) := by decide +kernel
theorem dX7_mapOf_20 : decode cX7_mapOf 20 = .ok (.iload_n 2, 1) := by decide +kernel
theorem dX7_mapOf_21 : decode cX7_mapOf 21 = .ok (.invokevirtual 106, 3) := by decide +kernel
theorem dX7_mapOf_24 : decode cX7_mapOf 24 = .ok (.ifCond .eq 26, 3) := by decide +kernel
theorem dX7_mapOf_27 : decode cX7_mapOf 27 = .ok (.iload_n 3, 1) := by decide +kernel
theorem dX7_mapOf_28 : decode cX7_mapOf 28 = .ok (.i2l, 1) := by decide +kernel
theorem dX7_mapOf_29 : decode cX7_mapOf 29 = .ok (.lconst 0, 1) := by decide +kernel
theorem dX7_mapOf_30 : decode cX7_mapOf 30 = .ok (.iload_n 2, 1) := by decide +kernel
theorem dX7_mapOf_31 : decode cX7_mapOf 31 = .ok (.iconst (-1), 1) := by decide +kernel
theorem dX7_mapOf_32 : decode cX7_mapOf 32 = .ok (.if_icmp .ne 9, 3) := by decide +kernel
theorem dX7_mapOf_35 : decode cX7_mapOf 35 = .ok (.ldc2_w 153, 3) := by decide +kernel
theorem dX7_mapOf_38 : decode cX7_mapOf 38 = .ok (.goto 6, 3) := by decide +kernel
theorem dX7_mapOf_41 : decode cX7_mapOf 41 = .ok (.ldc2_w 134, 3) := by decide +kernel
theorem dX7_mapOf_44 : decode cX7_mapOf 44 = .ok (.invokestatic 71, 3) := by decide +kernel
theorem dX7_mapOf_47 : decode cX7_mapOf 47 = .ok (.ifCond .ne 5, 3) := by decide +kernel
theorem dX7_mapOf_50 : decode cX7_mapOf 50 = .ok (.iconst (-1), 1) := by decide +kernel
theorem dX7_mapOf_51 : decode cX7_mapOf 51 = .ok (.ireturn, 1) := by decide +kernel
theorem dX7_mapOf_52 : decode cX7_mapOf 52 = .ok (.iload_n 3, 1) := by decide +kernel
theorem dX7_mapOf_53 : decode cX7_mapOf 53 = .ok (.iconst 3, 1) := by decide +kernel
theorem dX7_mapOf_54 : decode cX7_mapOf 54 = .ok (.if_icmp .ne 16, 3) := by decide +kernel
theorem dX7_mapOf_57 : decode cX7_mapOf 57 = .ok (.aload_n 0, 1) := by decide +kernel
theorem dX7_mapOf_58 : decode cX7_mapOf 58 = .ok (.getfield 13, 3) := by decide +kernel
theorem dX7_mapOf_61 : decode cX7_mapOf 61 = .ok (.iload_n 1, 1) := by decide +kernel
theorem dX7_mapOf_62 : decode cX7_mapOf 62 = .ok (.invokestatic 75, 3) := by decide +kernel
theorem dX7_mapOf_65 : decode cX7_mapOf 65 = .ok (.bipush 7, 2) := by decide +kernel
theorem dX7_mapOf_67 : decode cX7_mapOf 67 = .ok (.iadd, 1) := by decide +kernel
theorem dX7_mapOf_68 : decode cX7_mapOf 68 = .ok (.iaload, 1) := by decide +kernel
theorem dX7_mapOf_69 : decode cX7_mapOf 69 = .ok (.ireturn, 1) := by decide +kernel
theorem dX7_mapOf_70 : decode cX7_mapOf 70 = .ok (.iload_n 2, 1) := by decide +kernel
theorem dX7_mapOf_71 : decode cX7_mapOf 71 = .ok (.iconst (-1), 1) := by decide +kernel
theorem dX7_mapOf_72 : decode cX7_mapOf 72 = .ok (.if_icmp .ne 12, 3) := by decide +kernel
theorem dX7_mapOf_75 : decode cX7_mapOf 75 = .ok (.iload_n 1, 1) := by decide +kernel
theorem dX7_mapOf_76 : decode cX7_mapOf 76 = .ok (.invokestatic 75, 3) := by decide +kernel
theorem dX7_mapOf_79 : decode cX7_mapOf 79 = .ok (.iconst 2, 1) := by decide +kernel
theorem dX7_mapOf_80 : decode cX7_mapOf 80 = .ok (.iadd, 1) := by decide +kernel
theorem dX7_mapOf_81 : decode cX7_mapOf 81 = .ok (.goto 10, 3) := by decide +kernel
theorem dX7_mapOf_84 : decode cX7_mapOf 84 = .ok (.iload_n 1, 1) := by decide +kernel
theorem dX7_mapOf_85 : decode cX7_mapOf 85 = .ok (.iload_n 2, 1) := by decide +kernel
theorem dX7_mapOf_86 : decode cX7_mapOf 86 = .ok (.invokestatic 82, 3) := by decide +kernel
theorem dX7_mapOf_89 : decode cX7_mapOf 89 = .ok (.iconst 1, 1) := by decide +kernel
theorem dX7_mapOf_90 : decode cX7_mapOf 90 = .ok (.iadd, 1) := by decide +kernel
theorem dX7_mapOf_91 : decode cX7_mapOf 91 = .ok (.istore 4, 2) := by decide +kernel
theorem dX7_mapOf_93 : decode cX7_mapOf 93 = .ok (.iload_n 3, 1) := by decide +kernel
theorem dX7_mapOf_94 : decode cX7_mapOf 94 = .ok (.iconst 2, 1) := by decide +kernel
theorem dX7_mapOf_95 : decode cX7_mapOf 95 = .ok (.if_icmp .ne 19, 3) := by decide +kernel
theorem dX7_mapOf_98 : decode cX7_mapOf 98 = .ok (.aload_n 0, 1) := by decide +kernel
theorem dX7_mapOf_99 : decode cX7_mapOf 99 = .ok (.getfield 13, 3) := by decide +kernel
theorem dX7_mapOf_102 : decode cX7_mapOf 102 = .ok (.iload 4, 2) := by decide +kernel
theorem dX7_mapOf_104 : decode cX7_mapOf 104 = .ok (.iconst 1, 1) := by decide +kernel
theorem dX7_mapOf_105 : decode cX7_mapOf 105 = .ok (.iadd, 1) := by decide +kernel
theorem dX7_mapOf_106 : decode cX7_mapOf 106 = .ok (.iaload, 1) := by decide +kernel
theorem dX7_mapOf_107 : decode cX7_mapOf 107 = .ok (.ifCond .ne 7, 3) := by decide +kernel
theorem dX7_mapOf_110 : decode cX7_mapOf 110 = .ok (.iconst (-1), 1) := by decide +kernel
theorem dX7_mapOf_111 : decode cX7_mapOf 111 = .ok (.goto 12, 3) := by decide +kernel
theorem dX7_mapOf_114 : decode cX7_mapOf 114 = .ok (.aload_n 0, 1) := by decide +kernel
theorem dX7_mapOf_115 : decode cX7_mapOf 115 = .ok (.getfield 13, 3) := by decide +kernel
theorem dX7_mapOf_118 : decode cX7_mapOf 118 = .ok (.iload 4, 2) := by decide +kernel
theorem dX7_mapOf_120 : decode cX7_mapOf 120 = .ok (.iload_n 3, 1) := by decide +kernel
theorem dX7_mapOf_121 : decode cX7_mapOf 121 = .ok (.iadd, 1) := by decide +kernel
theorem dX7_mapOf_122 : decode cX7_mapOf 122 = .ok (.iaload, 1) := by decide +kernel
theorem dX7_mapOf_123 : decode cX7_mapOf 123 = .ok (.ireturn, 1) := by decide +kernel
theorem dX7_meets_0 : decode cX7_meets 0 = .ok (.aload_n 0, 1) := by decide +kernel
theorem dX7_meets_1 : decode cX7_meets 1 = .ok (.iconst 0, 1) := by decide +kernel
theorem dX7_meets_2 : decode cX7_meets 2 = .ok (.putfield 50, 3) := by decide +kernel
theorem dX7_meets_5 : decode cX7_meets 5 = .ok (.aload_n 0, 1) := by decide +kernel
theorem dX7_meets_6 : decode cX7_meets 6 = .ok (.iconst 0, 1) := by decide +kernel
theorem dX7_meets_7 : decode cX7_meets 7 = .ok (.invokevirtual 78, 3) := by decide +kernel
theorem dX7_meets_10 : decode cX7_meets 10 = .ok (.ifCond .eq 11, 3) := by decide +kernel
theorem dX7_meets_13 : decode cX7_meets 13 = .ok (.aload_n 0, 1) := by decide +kernel
theorem dX7_meets_14 : decode cX7_meets 14 = .ok (.iconst 1, 1) := by decide +kernel
theorem dX7_meets_15 : decode cX7_meets 15 = .ok (.invokevirtual 78, 3) := by decide +kernel
theorem dX7_meets_18 : decode cX7_meets 18 = .ok (.ifCond .ne 5, 3) := by decide +kernel
theorem dX7_meets_21 : decode cX7_meets 21 = .ok (.iconst (-1), 1) := by decide +kernel
theorem dX7_meets_22 : decode cX7_meets 22 = .ok (.ireturn, 1) := by decide +kernel
theorem dX7_meets_23 : decode cX7_meets 23 = .ok (.aload_n 0, 1) := by decide +kernel
theorem dX7_meets_24 : decode cX7_meets 24 = .ok (.getfield 13, 3) := by decide +kernel
theorem dX7_meets_27 : decode cX7_meets 27 = .ok (.bipush 7, 2) := by decide +kernel
theorem dX7_meets_29 : decode cX7_meets 29 = .ok (.iaload, 1) := by decide +kernel
theorem dX7_meets_30 : decode cX7_meets 30 = .ok (.istore_n 1, 1) := by decide +kernel
theorem dX7_meets_31 : decode cX7_meets 31 = .ok (.iload_n 1, 1) := by decide +kernel
theorem dX7_meets_32 : decode cX7_meets 32 = .ok (.aload_n 0, 1) := by decide +kernel
theorem dX7_meets_33 : decode cX7_meets 33 = .ok (.getfield 13, 3) := by decide +kernel
theorem dX7_meets_36 : decode cX7_meets 36 = .ok (.bipush 7, 2) := by decide +kernel
theorem dX7_meets_38 : decode cX7_meets 38 = .ok (.iaload, 1) := by decide +kernel
theorem dX7_meets_39 : decode cX7_meets 39 = .ok (.sipush 4000, 3) := by decide +kernel
theorem dX7_meets_42 : decode cX7_meets 42 = .ok (.iadd, 1) := by decide +kernel
theorem dX7_meets_43 : decode cX7_meets 43 = .ok (.if_icmp .ge 48, 3) := by decide +kernel
theorem dX7_meets_46 : decode cX7_meets 46 = .ok (.aload_n 0, 1) := by decide +kernel
theorem dX7_meets_47 : decode cX7_meets 47 = .ok (.iconst 0, 1) := by decide +kernel
theorem dX7_meets_48 : decode cX7_meets 48 = .ok (.iload_n 1, 1) := by decide +kernel
theorem dX7_meets_49 : decode cX7_meets 49 = .ok (.aload_n 0, 1) := by decide +kernel
theorem dX7_meets_50 : decode cX7_meets 50 = .ok (.getfield 13, 3) := by decide +kernel
theorem dX7_meets_53 : decode cX7_meets 53 = .ok (.iconst 0, 1) := by decide +kernel
theorem dX7_meets_54 : decode cX7_meets 54 = .ok (.invokestatic 75, 3) := by decide +kernel
theorem dX7_meets_57 : decode cX7_meets 57 = .ok (.iconst 2, 1) := by decide +kernel
theorem dX7_meets_58 : decode cX7_meets 58 = .ok (.iadd, 1) := by decide +kernel
theorem dX7_meets_59 : decode cX7_meets 59 = .ok (.iaload, 1) := by decide +kernel
theorem dX7_meets_60 : decode cX7_meets 60 = .ok (.invokevirtual 114, 3) := by decide +kernel
theorem dX7_meets_63 : decode cX7_meets 63 = .ok (.aload_n 0, 1) := by decide +kernel
theorem dX7_meets_64 : decode cX7_meets 64 = .ok (.iconst 1, 1) := by decide +kernel
theorem dX7_meets_65 : decode cX7_meets 65 = .ok (.iload_n 1, 1) := by decide +kernel
theorem dX7_meets_66 : decode cX7_meets 66 = .ok (.aload_n 0, 1) := by decide +kernel
theorem dX7_meets_67 : decode cX7_meets 67 = .ok (.getfield 13, 3) := by decide +kernel
theorem dX7_meets_70 : decode cX7_meets 70 = .ok (.iconst 1, 1) := by decide +kernel
theorem dX7_meets_71 : decode cX7_meets 71 = .ok (.invokestatic 75, 3) := by decide +kernel
theorem dX7_meets_74 : decode cX7_meets 74 = .ok (.iconst 2, 1) := by decide +kernel
theorem dX7_meets_75 : decode cX7_meets 75 = .ok (.iadd, 1) := by decide +kernel
theorem dX7_meets_76 : decode cX7_meets 76 = .ok (.iaload, 1) := by decide +kernel
theorem dX7_meets_77 : decode cX7_meets 77 = .ok (.invokevirtual 114, 3) := by decide +kernel
theorem dX7_meets_80 : decode cX7_meets 80 = .ok (.if_icmp .ne 5, 3) := by decide +kernel
theorem dX7_meets_83 : decode cX7_meets 83 = .ok (.iload_n 1, 1) := by decide +kernel
theorem dX7_meets_84 : decode cX7_meets 84 = .ok (.ireturn, 1) := by decide +kernel
theorem dX7_meets_85 : decode cX7_meets 85 = .ok (.iinc 1 1, 3) := by decide +kernel
theorem dX7_meets_88 : decode cX7_meets 88 = .ok (.goto (-57), 3) := by decide +kernel
theorem dX7_meets_91 : decode cX7_meets 91 = .ok (.iconst (-1), 1) := by decide +kernel
theorem dX7_meets_92 : decode cX7_meets 92 = .ok (.ireturn, 1) := by decide +kernel
theorem dX7_used_0 : decode cX7_used 0 = .ok (.aload_n 0, 1) := by decide +kernel
theorem dX7_used_1 : decode cX7_used 1 = .ok (.iconst 0, 1) := by decide +kernel
theorem dX7_used_2 : decode cX7_used 2 = .ok (.putfield 50, 3) := by decide +kernel
theorem dX7_used_5 : decode cX7_used 5 = .ok (.aload_n 0, 1) := by decide +kernel
theorem dX7_used_6 : decode cX7_used 6 = .ok (.iload_n 1, 1) := by decide +kernel
theorem dX7_used_7 : decode cX7_used 7 = .ok (.invokevirtual 78, 3) := by decide +kernel
theorem dX7_used_10 : decode cX7_used 10 = .ok (.ifCond .eq 27, 3) := by decide +kernel
theorem dX7_used_13 : decode cX7_used 13 = .ok (.iload_n 2, 1) := by decide +kernel
theorem dX7_used_14 : decode cX7_used 14 = .ok (.i2l, 1) := by decide +kernel
theorem dX7_used_15 : decode cX7_used 15 = .ok (.lconst 0, 1) := by decide +kernel
theorem dX7_used_16 : decode cX7_used 16 = .ok (.ldc2_w 128, 3) := by decide +kernel
theorem dX7_used_19 : decode cX7_used 19 = .ok (.invokestatic 71, 3) := by decide +kernel
theorem dX7_used_22 : decode cX7_used 22 = .ok (.ifCond .eq 15, 3) := by decide +kernel
theorem dX7_used_25 : decode cX7_used 25 = .ok (.iload_n 3, 1) := by decide +kernel
theorem dX7_used_26 : decode cX7_used 26 = .ok (.i2l, 1) := by decide +kernel
theorem dX7_used_27 : decode cX7_used 27 = .ok (.lconst 1, 1) := by decide +kernel
theorem dX7_used_28 : decode cX7_used 28 = .ok (.ldc2_w 245, 3) := by decide +kernel
theorem dX7_used_31 : decode cX7_used 31 = .ok (.invokestatic 71, 3) := by decide +kernel
theorem dX7_used_34 : decode cX7_used 34 = .ok (.ifCond .ne 5, 3) := by decide +kernel
theorem dX7_used_37 : decode cX7_used 37 = .ok (.iconst (-1), 1) := by decide +kernel
theorem dX7_used_38 : decode cX7_used 38 = .ok (.ireturn, 1) := by decide +kernel
theorem dX7_used_39 : decode cX7_used 39 = .ok (.iconst 0, 1) := by decide +kernel
theorem dX7_used_40 : decode cX7_used 40 = .ok (.istore 4, 2) := by decide +kernel
theorem dX7_used_42 : decode cX7_used 42 = .ok (.iconst 0, 1) := by decide +kernel
theorem dX7_used_43 : decode cX7_used 43 = .ok (.istore 5, 2) := by decide +kernel
theorem dX7_used_45 : decode cX7_used 45 = .ok (.iload 5, 2) := by decide +kernel
theorem dX7_used_47 : decode cX7_used 47 = .ok (.iload_n 3, 1) := by decide +kernel
theorem dX7_used_48 : decode cX7_used 48 = .ok (.if_icmp .ge 49, 3) := by decide +kernel
theorem dX7_used_51 : decode cX7_used 51 = .ok (.iload 4, 2) := by decide +kernel
theorem dX7_used_53 : decode cX7_used 53 = .ok (.aload_n 0, 1) := by decide +kernel
theorem dX7_used_54 : decode cX7_used 54 = .ok (.iload_n 1, 1) := by decide +kernel
theorem dX7_used_55 : decode cX7_used 55 = .ok (.aload_n 0, 1) := by decide +kernel
theorem dX7_used_56 : decode cX7_used 56 = .ok (.getfield 13, 3) := by decide +kernel
theorem dX7_used_59 : decode cX7_used 59 = .ok (.bipush 7, 2) := by decide +kernel
theorem dX7_used_61 : decode cX7_used 61 = .ok (.iaload, 1) := by decide +kernel
theorem dX7_used_62 : decode cX7_used 62 = .ok (.iload 5, 2) := by decide +kernel
theorem dX7_used_64 : decode cX7_used 64 = .ok (.iadd, 1) := by decide +kernel
theorem dX7_used_65 : decode cX7_used 65 = .ok (.aload_n 0, 1) := by decide +kernel
theorem dX7_used_66 : decode cX7_used 66 = .ok (.getfield 13, 3) := by decide +kernel
theorem dX7_used_69 : decode cX7_used 69 = .ok (.iload_n 1, 1) := by decide +kernel
theorem dX7_used_70 : decode cX7_used 70 = .ok (.invokestatic 75, 3) := by decide +kernel
theorem dX7_used_73 : decode cX7_used 73 = .ok (.iconst 2, 1) := by decide +kernel
theorem dX7_used_74 : decode cX7_used 74 = .ok (.iadd, 1) := by decide +kernel
theorem dX7_used_75 : decode cX7_used 75 = .ok (.iaload, 1) := by decide +kernel
theorem dX7_used_76 : decode cX7_used 76 = .ok (.invokevirtual 114, 3) := by decide +kernel
theorem dX7_used_79 : decode cX7_used 79 = .ok (.iload_n 2, 1) := by decide +kernel
theorem dX7_used_80 : decode cX7_used 80 = .ok (.if_icmp .ne 7, 3) := by decide +kernel
theorem dX7_used_83 : decode cX7_used 83 = .ok (.iconst 1, 1) := by decide +kernel
theorem dX7_used_84 : decode cX7_used 84 = .ok (.goto 4, 3) := by decide +kernel
theorem dX7_used_87 : decode cX7_used 87 = .ok (.iconst 0, 1) := by decide +kernel
theorem dX7_used_88 : decode cX7_used 88 = .ok (.iadd, 1) := by decide +kernel
theorem dX7_used_89 : decode cX7_used 89 = .ok (.istore 4, 2) := by decide +kernel
theorem dX7_used_91 : decode cX7_used 91 = .ok (.iinc 5 1, 3) := by decide +kernel
theorem dX7_used_94 : decode cX7_used 94 = .ok (.goto (-49), 3) := by decide +kernel
theorem dX7_used_97 : decode cX7_used 97 = .ok (.iload 4, 2) := by decide +kernel
theorem dX7_used_99 : decode cX7_used 99 = .ok (.ireturn, 1) := by decide +kernel
theorem dX7_bad_0 : decode cX7_bad 0 = .ok (.aload_n 0, 1) := by decide +kernel
theorem dX7_bad_1 : decode cX7_bad 1 = .ok (.iconst 0, 1) := by decide +kernel
theorem dX7_bad_2 : decode cX7_bad 2 = .ok (.putfield 50, 3) := by decide +kernel
theorem dX7_bad_5 : decode cX7_bad 5 = .ok (.aload_n 0, 1) := by decide +kernel
theorem dX7_bad_6 : decode cX7_bad 6 = .ok (.iload_n 1, 1) := by decide +kernel
theorem dX7_bad_7 : decode cX7_bad 7 = .ok (.invokevirtual 78, 3) := by decide +kernel
theorem dX7_bad_10 : decode cX7_bad 10 = .ok (.ifCond .eq 24, 3) := by decide +kernel
theorem dX7_bad_13 : decode cX7_bad 13 = .ok (.iload_n 2, 1) := by decide +kernel
theorem dX7_bad_14 : decode cX7_bad 14 = .ok (.i2l, 1) := by decide +kernel
theorem dX7_bad_15 : decode cX7_bad 15 = .ok (.lconst 1, 1) := by decide +kernel
theorem dX7_bad_16 : decode cX7_bad 16 = .ok (.ldc2_w 162, 3) := by decide +kernel
theorem dX7_bad_19 : decode cX7_bad 19 = .ok (.invokestatic 71, 3) := by decide +kernel
theorem dX7_bad_22 : decode cX7_bad 22 = .ok (.ifCond .eq 12, 3) := by decide +kernel
theorem dX7_bad_25 : decode cX7_bad 25 = .ok (.aload_n 0, 1) := by decide +kernel
theorem dX7_bad_26 : decode cX7_bad 26 = .ok (.iload_n 1, 1) := by decide +kernel
theorem dX7_bad_27 : decode cX7_bad 27 = .ok (.iload_n 2, 1) := by decide +kernel
theorem dX7_bad_28 : decode cX7_bad 28 = .ok (.invokevirtual 164, 3) := by decide +kernel
theorem dX7_bad_31 : decode cX7_bad 31 = .ok (.goto 4, 3) := by decide +kernel
theorem dX7_bad_34 : decode cX7_bad 34 = .ok (.iconst (-1), 1) := by decide +kernel
theorem dX7_bad_35 : decode cX7_bad 35 = .ok (.ireturn, 1) := by decide +kernel
theorem dX7_sent_0 : decode cX7_sent 0 = .ok (.aload_n 0, 1) := by decide +kernel
theorem dX7_sent_1 : decode cX7_sent 1 = .ok (.iconst 0, 1) := by decide +kernel
theorem dX7_sent_2 : decode cX7_sent 2 = .ok (.putfield 50, 3) := by decide +kernel
theorem dX7_sent_5 : decode cX7_sent 5 = .ok (.aload_n 0, 1) := by decide +kernel
theorem dX7_sent_6 : decode cX7_sent 6 = .ok (.iload_n 1, 1) := by decide +kernel
theorem dX7_sent_7 : decode cX7_sent 7 = .ok (.invokevirtual 78, 3) := by decide +kernel
theorem dX7_sent_10 : decode cX7_sent 10 = .ok (.ifCond .eq 25, 3) := by decide +kernel
theorem dX7_sent_13 : decode cX7_sent 13 = .ok (.iload_n 2, 1) := by decide +kernel
theorem dX7_sent_14 : decode cX7_sent 14 = .ok (.i2l, 1) := by decide +kernel
theorem dX7_sent_15 : decode cX7_sent 15 = .ok (.lconst 0, 1) := by decide +kernel
theorem dX7_sent_16 : decode cX7_sent 16 = .ok (.ldc2_w 128, 3) := by decide +kernel
theorem dX7_sent_19 : decode cX7_sent 19 = .ok (.invokestatic 71, 3) := by decide +kernel
theorem dX7_sent_22 : decode cX7_sent 22 = .ok (.ifCond .eq 13, 3) := by decide +kernel
theorem dX7_sent_25 : decode cX7_sent 25 = .ok (.iload_n 3, 1) := by decide +kernel
theorem dX7_sent_26 : decode cX7_sent 26 = .ok (.i2l, 1) := by decide +kernel
theorem dX7_sent_27 : decode cX7_sent 27 = .ok (.lconst 0, 1) := by decide +kernel
theorem dX7_sent_28 : decode cX7_sent 28 = .ok (.lconst 1, 1) := by decide +kernel
theorem dX7_sent_29 : decode cX7_sent 29 = .ok (.invokestatic 71, 3) := by decide +kernel
theorem dX7_sent_32 : decode cX7_sent 32 = .ok (.ifCond .ne 5, 3) := by decide +kernel
theorem dX7_sent_35 : decode cX7_sent 35 = .ok (.iconst (-1), 1) := by decide +kernel
theorem dX7_sent_36 : decode cX7_sent 36 = .ok (.ireturn, 1) := by decide +kernel
theorem dX7_sent_37 : decode cX7_sent 37 = .ok (.aload_n 0, 1) := by decide +kernel
theorem dX7_sent_38 : decode cX7_sent 38 = .ok (.getfield 13, 3) := by decide +kernel
theorem dX7_sent_41 : decode cX7_sent 41 = .ok (.iload_n 1, 1) := by decide +kernel
theorem dX7_sent_42 : decode cX7_sent 42 = .ok (.invokestatic 75, 3) := by decide +kernel
theorem dX7_sent_45 : decode cX7_sent 45 = .ok (.iload_n 3, 1) := by decide +kernel
theorem dX7_sent_46 : decode cX7_sent 46 = .ok (.ifCond .ne 8, 3) := by decide +kernel
theorem dX7_sent_49 : decode cX7_sent 49 = .ok (.bipush 16, 2) := by decide +kernel
theorem dX7_sent_51 : decode cX7_sent 51 = .ok (.goto 5, 3) := by decide +kernel
theorem dX7_sent_54 : decode cX7_sent 54 = .ok (.bipush 39, 2) := by decide +kernel
theorem dX7_sent_56 : decode cX7_sent 56 = .ok (.iadd, 1) := by decide +kernel
theorem dX7_sent_57 : decode cX7_sent 57 = .ok (.iload_n 2, 1) := by decide +kernel
theorem dX7_sent_58 : decode cX7_sent 58 = .ok (.iadd, 1) := by decide +kernel
theorem dX7_sent_59 : decode cX7_sent 59 = .ok (.iaload, 1) := by decide +kernel
theorem dX7_sent_60 : decode cX7_sent 60 = .ok (.ireturn, 1) := by decide +kernel
theorem dX7_link_0 : decode cX7_link 0 = .ok (.aload_n 0, 1) := by decide +kernel
theorem dX7_link_1 : decode cX7_link 1 = .ok (.iconst 0, 1) := by decide +kernel
theorem dX7_link_2 : decode cX7_link 2 = .ok (.putfield 50, 3) := by decide +kernel
theorem dX7_link_5 : decode cX7_link 5 = .ok (.aload_n 0, 1) := by decide +kernel
theorem dX7_link_6 : decode cX7_link 6 = .ok (.iload_n 1, 1) := by decide +kernel
theorem dX7_link_7 : decode cX7_link 7 = .ok (.iload_n 2, 1) := by decide +kernel
theorem dX7_link_8 : decode cX7_link 8 = .ok (.invokevirtual 106, 3) := by decide +kernel
theorem dX7_link_11 : decode cX7_link 11 = .ok (.ifCond .ne 5, 3) := by decide +kernel
theorem dX7_link_14 : decode cX7_link 14 = .ok (.iconst (-1), 1) := by decide +kernel
theorem dX7_link_15 : decode cX7_link 15 = .ok (.ireturn, 1) := by decide +kernel
theorem dX7_link_16 : decode cX7_link 16 = .ok (.iload_n 1, 1) := by decide +kernel
theorem dX7_link_17 : decode cX7_link 17 = .ok (.iload_n 2, 1) := by decide +kernel
theorem dX7_link_18 : decode cX7_link 18 = .ok (.invokestatic 82, 3) := by decide +kernel
theorem dX7_link_21 : decode cX7_link 21 = .ok (.istore 4, 2) := by decide +kernel
theorem dX7_link_23 : decode cX7_link 23 = .ok (.iload_n 3, 1) := by decide +kernel
theorem dX7_link_24 : decode cX7_link 24 = .ok (.tableswitch 267 0 16 #[84, 92, 102, 113, 124, 135, 146, 157, 168, 179, 190, 201, 212, 223, 234, 245, 256], 84) := by decide +kernel
theorem dX7_link_108 : decode cX7_link 108 = .ok (.aload_n 0, 1) := by decide +kernel
theorem dX7_link_109 : decode cX7_link 109 = .ok (.getfield 13, 3) := by decide +kernel
theorem dX7_link_112 : decode cX7_link 112 = .ok (.iload 4, 2) := by decide +kernel
theorem dX7_link_114 : decode cX7_link 114 = .ok (.iaload, 1) := by decide +kernel
theorem dX7_link_115 : decode cX7_link 115 = .ok (.ireturn, 1) := by decide +kernel
theorem dX7_link_116 : decode cX7_link 116 = .ok (.aload_n 0, 1) := by decide +kernel
theorem dX7_link_117 : decode cX7_link 117 = .ok (.getfield 13, 3) := by decide +kernel
theorem dX7_link_120 : decode cX7_link 120 = .ok (.iload 4, 2) := by decide +kernel
theorem dX7_link_122 : decode cX7_link 122 = .ok (.iconst 5, 1) := by decide +kernel
theorem dX7_link_123 : decode cX7_link 123 = .ok (.iadd, 1) := by decide +kernel
theorem dX7_link_124 : decode cX7_link 124 = .ok (.iaload, 1) := by decide +kernel
theorem dX7_link_125 : decode cX7_link 125 = .ok (.ireturn, 1) := by decide +kernel
theorem dX7_link_126 : decode cX7_link 126 = .ok (.aload_n 0, 1) := by decide +kernel
theorem dX7_link_127 : decode cX7_link 127 = .ok (.getfield 13, 3) := by decide +kernel
theorem dX7_link_130 : decode cX7_link 130 = .ok (.iload 4, 2) := by decide +kernel
theorem dX7_link_132 : decode cX7_link 132 = .ok (.bipush 14, 2) := by decide +kernel
theorem dX7_link_134 : decode cX7_link 134 = .ok (.iadd, 1) := by decide +kernel
theorem dX7_link_135 : decode cX7_link 135 = .ok (.iaload, 1) := by decide +kernel
theorem dX7_link_136 : decode cX7_link 136 = .ok (.ireturn, 1) := by decide +kernel
theorem dX7_link_137 : decode cX7_link 137 = .ok (.aload_n 0, 1) := by decide +kernel
theorem dX7_link_138 : decode cX7_link 138 = .ok (.getfield 13, 3) := by decide +kernel
theorem dX7_link_141 : decode cX7_link 141 = .ok (.iload 4, 2) := by decide +kernel
theorem dX7_link_143 : decode cX7_link 143 = .ok (.bipush 27, 2) := by decide +kernel
theorem dX7_link_145 : decode cX7_link 145 = .ok (.iadd, 1) := by decide +kernel
theorem dX7_link_146 : decode cX7_link 146 = .ok (.iaload, 1) := by decide +kernel
theorem dX7_link_147 : decode cX7_link 147 = .ok (.ireturn, 1) := by decide +kernel
theorem dX7_link_148 : decode cX7_link 148 = .ok (.aload_n 0, 1) := by decide +kernel
theorem dX7_link_149 : decode cX7_link 149 = .ok (.getfield 13, 3) := by decide +kernel
theorem dX7_link_152 : decode cX7_link 152 = .ok (.iload 4, 2) := by decide +kernel
theorem dX7_link_154 : decode cX7_link 154 = .ok (.bipush 29, 2) := by decide +kernel
theorem dX7_link_156 : decode cX7_link 156 = .ok (.iadd, 1) := by decide +kernel
theorem dX7_link_157 : decode cX7_link 157 = .ok (.iaload, 1) := by decide +kernel
theorem dX7_link_158 : decode cX7_link 158 = .ok (.ireturn, 1) := by decide +kernel
theorem dX7_link_159 : decode cX7_link 159 = .ok (.aload_n 0, 1) := by decide +kernel
theorem dX7_link_160 : decode cX7_link 160 = .ok (.getfield 13, 3) := by decide +kernel
theorem dX7_link_163 : decode cX7_link 163 = .ok (.iload 4, 2) := by decide +kernel
theorem dX7_link_165 : decode cX7_link 165 = .ok (.bipush 37, 2) := by decide +kernel
theorem dX7_link_167 : decode cX7_link 167 = .ok (.iadd, 1) := by decide +kernel
theorem dX7_link_168 : decode cX7_link 168 = .ok (.iaload, 1) := by decide +kernel
theorem dX7_link_169 : decode cX7_link 169 = .ok (.ireturn, 1) := by decide +kernel
theorem dX7_link_170 : decode cX7_link 170 = .ok (.aload_n 0, 1) := by decide +kernel
theorem dX7_link_171 : decode cX7_link 171 = .ok (.getfield 13, 3) := by decide +kernel
theorem dX7_link_174 : decode cX7_link 174 = .ok (.iload 4, 2) := by decide +kernel
theorem dX7_link_176 : decode cX7_link 176 = .ok (.bipush 23, 2) := by decide +kernel
theorem dX7_link_178 : decode cX7_link 178 = .ok (.iadd, 1) := by decide +kernel
theorem dX7_link_179 : decode cX7_link 179 = .ok (.iaload, 1) := by decide +kernel
theorem dX7_link_180 : decode cX7_link 180 = .ok (.ireturn, 1) := by decide +kernel
theorem dX7_link_181 : decode cX7_link 181 = .ok (.aload_n 0, 1) := by decide +kernel
theorem dX7_link_182 : decode cX7_link 182 = .ok (.getfield 13, 3) := by decide +kernel
theorem dX7_link_185 : decode cX7_link 185 = .ok (.iload 4, 2) := by decide +kernel
theorem dX7_link_187 : decode cX7_link 187 = .ok (.bipush 24, 2) := by decide +kernel
theorem dX7_link_189 : decode cX7_link 189 = .ok (.iadd, 1) := by decide +kernel
theorem dX7_link_190 : decode cX7_link 190 = .ok (.iaload, 1) := by decide +kernel
theorem dX7_link_191 : decode cX7_link 191 = .ok (.ireturn, 1) := by decide +kernel
theorem dX7_link_192 : decode cX7_link 192 = .ok (.aload_n 0, 1) := by decide +kernel
theorem dX7_link_193 : decode cX7_link 193 = .ok (.getfield 13, 3) := by decide +kernel
theorem dX7_link_196 : decode cX7_link 196 = .ok (.iload 4, 2) := by decide +kernel
theorem dX7_link_198 : decode cX7_link 198 = .ok (.bipush 25, 2) := by decide +kernel
theorem dX7_link_200 : decode cX7_link 200 = .ok (.iadd, 1) := by decide +kernel
theorem dX7_link_201 : decode cX7_link 201 = .ok (.iaload, 1) := by decide +kernel
theorem dX7_link_202 : decode cX7_link 202 = .ok (.ireturn, 1) := by decide +kernel
theorem dX7_link_203 : decode cX7_link 203 = .ok (.aload_n 0, 1) := by decide +kernel
theorem dX7_link_204 : decode cX7_link 204 = .ok (.getfield 13, 3) := by decide +kernel
theorem dX7_link_207 : decode cX7_link 207 = .ok (.iload 4, 2) := by decide +kernel
theorem dX7_link_209 : decode cX7_link 209 = .ok (.bipush 26, 2) := by decide +kernel
theorem dX7_link_211 : decode cX7_link 211 = .ok (.iadd, 1) := by decide +kernel
theorem dX7_link_212 : decode cX7_link 212 = .ok (.iaload, 1) := by decide +kernel
theorem dX7_link_213 : decode cX7_link 213 = .ok (.ireturn, 1) := by decide +kernel
theorem dX7_link_214 : decode cX7_link 214 = .ok (.aload_n 0, 1) := by decide +kernel
theorem dX7_link_215 : decode cX7_link 215 = .ok (.getfield 13, 3) := by decide +kernel
theorem dX7_link_218 : decode cX7_link 218 = .ok (.iload 4, 2) := by decide +kernel
theorem dX7_link_220 : decode cX7_link 220 = .ok (.bipush 38, 2) := by decide +kernel
theorem dX7_link_222 : decode cX7_link 222 = .ok (.iadd, 1) := by decide +kernel
theorem dX7_link_223 : decode cX7_link 223 = .ok (.iaload, 1) := by decide +kernel
theorem dX7_link_224 : decode cX7_link 224 = .ok (.ireturn, 1) := by decide +kernel
theorem dX7_link_225 : decode cX7_link 225 = .ok (.aload_n 0, 1) := by decide +kernel
theorem dX7_link_226 : decode cX7_link 226 = .ok (.getfield 13, 3) := by decide +kernel
theorem dX7_link_229 : decode cX7_link 229 = .ok (.iload 4, 2) := by decide +kernel
theorem dX7_link_231 : decode cX7_link 231 = .ok (.bipush 42, 2) := by decide +kernel
theorem dX7_link_233 : decode cX7_link 233 = .ok (.iadd, 1) := by decide +kernel
theorem dX7_link_234 : decode cX7_link 234 = .ok (.iaload, 1) := by decide +kernel
theorem dX7_link_235 : decode cX7_link 235 = .ok (.ireturn, 1) := by decide +kernel
theorem dX7_link_236 : decode cX7_link 236 = .ok (.aload_n 0, 1) := by decide +kernel
theorem dX7_link_237 : decode cX7_link 237 = .ok (.getfield 13, 3) := by decide +kernel
theorem dX7_link_240 : decode cX7_link 240 = .ok (.iload 4, 2) := by decide +kernel
theorem dX7_link_242 : decode cX7_link 242 = .ok (.bipush 43, 2) := by decide +kernel
theorem dX7_link_244 : decode cX7_link 244 = .ok (.iadd, 1) := by decide +kernel
theorem dX7_link_245 : decode cX7_link 245 = .ok (.iaload, 1) := by decide +kernel
theorem dX7_link_246 : decode cX7_link 246 = .ok (.ireturn, 1) := by decide +kernel
theorem dX7_link_247 : decode cX7_link 247 = .ok (.aload_n 0, 1) := by decide +kernel
theorem dX7_link_248 : decode cX7_link 248 = .ok (.getfield 13, 3) := by decide +kernel
theorem dX7_link_251 : decode cX7_link 251 = .ok (.iload 4, 2) := by decide +kernel
theorem dX7_link_253 : decode cX7_link 253 = .ok (.bipush 45, 2) := by decide +kernel
theorem dX7_link_255 : decode cX7_link 255 = .ok (.iadd, 1) := by decide +kernel
theorem dX7_link_256 : decode cX7_link 256 = .ok (.iaload, 1) := by decide +kernel
theorem dX7_link_257 : decode cX7_link 257 = .ok (.ireturn, 1) := by decide +kernel
theorem dX7_link_258 : decode cX7_link 258 = .ok (.aload_n 0, 1) := by decide +kernel
theorem dX7_link_259 : decode cX7_link 259 = .ok (.getfield 13, 3) := by decide +kernel
theorem dX7_link_262 : decode cX7_link 262 = .ok (.iload 4, 2) := by decide +kernel
theorem dX7_link_264 : decode cX7_link 264 = .ok (.bipush 46, 2) := by decide +kernel
theorem dX7_link_266 : decode cX7_link 266 = .ok (.iadd, 1) := by decide +kernel
theorem dX7_link_267 : decode cX7_link 267 = .ok (.iaload, 1) := by decide +kernel
theorem dX7_link_268 : decode cX7_link 268 = .ok (.ireturn, 1) := by decide +kernel
theorem dX7_link_269 : decode cX7_link 269 = .ok (.aload_n 0, 1) := by decide +kernel
theorem dX7_link_270 : decode cX7_link 270 = .ok (.getfield 13, 3) := by decide +kernel
theorem dX7_link_273 : decode cX7_link 273 = .ok (.iload 4, 2) := by decide +kernel
theorem dX7_link_275 : decode cX7_link 275 = .ok (.bipush 47, 2) := by decide +kernel
theorem dX7_link_277 : decode cX7_link 277 = .ok (.iadd, 1) := by decide +kernel
theorem dX7_link_278 : decode cX7_link 278 = .ok (.iaload, 1) := by decide +kernel
theorem dX7_link_279 : decode cX7_link 279 = .ok (.ireturn, 1) := by decide +kernel
theorem dX7_link_280 : decode cX7_link 280 = .ok (.aload_n 0, 1) := by decide +kernel
theorem dX7_link_281 : decode cX7_link 281 = .ok (.getfield 13, 3) := by decide +kernel
theorem dX7_link_284 : decode cX7_link 284 = .ok (.iload 4, 2) := by decide +kernel
theorem dX7_link_286 : decode cX7_link 286 = .ok (.bipush 48, 2) := by decide +kernel
theorem dX7_link_288 : decode cX7_link 288 = .ok (.iadd, 1) := by decide +kernel
theorem dX7_link_289 : decode cX7_link 289 = .ok (.iaload, 1) := by decide +kernel
theorem dX7_link_290 : decode cX7_link 290 = .ok (.ireturn, 1) := by decide +kernel
theorem dX7_link_291 : decode cX7_link 291 = .ok (.iconst (-1), 1) := by decide +kernel
theorem dX7_link_292 : decode cX7_link 292 = .ok (.ireturn, 1) := by decide +kernel
theorem dX7_reserved_0 : decode cX7_reserved 0 = .ok (.aload_n 0, 1) := by decide +kernel
theorem dX7_reserved_1 : decode cX7_reserved 1 = .ok (.iconst 0, 1) := by decide +kernel
theorem dX7_reserved_2 : decode cX7_reserved 2 = .ok (.putfield 50, 3) := by decide +kernel
theorem dX7_reserved_5 : decode cX7_reserved 5 = .ok (.aload_n 0, 1) := by decide +kernel
theorem dX7_reserved_6 : decode cX7_reserved 6 = .ok (.iload_n 1, 1) := by decide +kernel
theorem dX7_reserved_7 : decode cX7_reserved 7 = .ok (.iload_n 2, 1) := by decide +kernel
theorem dX7_reserved_8 : decode cX7_reserved 8 = .ok (.invokevirtual 106, 3) := by decide +kernel
theorem dX7_reserved_11 : decode cX7_reserved 11 = .ok (.ifCond .eq 49, 3) := by decide +kernel
theorem dX7_reserved_14 : decode cX7_reserved 14 = .ok (.iload_n 3, 1) := by decide +kernel
theorem dX7_reserved_15 : decode cX7_reserved 15 = .ok (.i2l, 1) := by decide +kernel
theorem dX7_reserved_16 : decode cX7_reserved 16 = .ok (.lconst 0, 1) := by decide +kernel
theorem dX7_reserved_17 : decode cX7_reserved 17 = .ok (.ldc2_w 247, 3) := by decide +kernel
theorem dX7_reserved_20 : decode cX7_reserved 20 = .ok (.invokestatic 71, 3) := by decide +kernel
theorem dX7_reserved_23 : decode cX7_reserved 23 = .ok (.ifCond .eq 37, 3) := by decide +kernel
theorem dX7_reserved_26 : decode cX7_reserved 26 = .ok (.aload_n 0, 1) := by decide +kernel
theorem dX7_reserved_27 : decode cX7_reserved 27 = .ok (.getfield 13, 3) := by decide +kernel
theorem dX7_reserved_30 : decode cX7_reserved 30 = .ok (.iload_n 1, 1) := by decide +kernel
theorem dX7_reserved_31 : decode cX7_reserved 31 = .ok (.iload_n 2, 1) := by decide +kernel
theorem dX7_reserved_32 : decode cX7_reserved 32 = .ok (.invokestatic 82, 3) := by decide +kernel
theorem dX7_reserved_35 : decode cX7_reserved 35 = .ok (.bipush 31, 2) := by decide +kernel
theorem dX7_reserved_37 : decode cX7_reserved 37 = .ok (.iadd, 1) := by decide +kernel
theorem dX7_reserved_38 : decode cX7_reserved 38 = .ok (.iaload, 1) := by decide +kernel
theorem dX7_reserved_39 : decode cX7_reserved 39 = .ok (.ifCond .le 21, 3) := by decide +kernel
theorem dX7_reserved_42 : decode cX7_reserved 42 = .ok (.aload_n 0, 1) := by decide +kernel
theorem dX7_reserved_43 : decode cX7_reserved 43 = .ok (.getfield 13, 3) := by decide +kernel
theorem dX7_reserved_46 : decode cX7_reserved 46 = .ok (.iload_n 1, 1) := by decide +kernel
theorem dX7_reserved_47 : decode cX7_reserved 47 = .ok (.iload_n 2, 1) := by decide +kernel
theorem dX7_reserved_48 : decode cX7_reserved 48 = .ok (.invokestatic 82, 3) := by decide +kernel
theorem dX7_reserved_51 : decode cX7_reserved 51 = .ok (.bipush 31, 2) := by decide +kernel
theorem dX7_reserved_53 : decode cX7_reserved 53 = .ok (.iadd, 1) := by decide +kernel
theorem dX7_reserved_54 : decode cX7_reserved 54 = .ok (.iload_n 3, 1) := by decide +kernel
theorem dX7_reserved_55 : decode cX7_reserved 55 = .ok (.iadd, 1) := by decide +kernel
theorem dX7_reserved_56 : decode cX7_reserved 56 = .ok (.iaload, 1) := by decide +kernel
theorem dX7_reserved_57 : decode cX7_reserved 57 = .ok (.goto 4, 3) := by decide +kernel
theorem dX7_reserved_60 : decode cX7_reserved 60 = .ok (.iconst (-1), 1) := by decide +kernel
theorem dX7_reserved_61 : decode cX7_reserved 61 = .ok (.ireturn, 1) := by decide +kernel
theorem dX7_odds_0 : decode cX7_odds 0 = .ok (.aload_n 0, 1) := by decide +kernel
theorem dX7_odds_1 : decode cX7_odds 1 = .ok (.iconst 0, 1) := by decide +kernel
theorem dX7_odds_2 : decode cX7_odds 2 = .ok (.putfield 50, 3) := by decide +kernel
theorem dX7_odds_5 : decode cX7_odds 5 = .ok (.aload_n 0, 1) := by decide +kernel
theorem dX7_odds_6 : decode cX7_odds 6 = .ok (.iload_n 1, 1) := by decide +kernel
theorem dX7_odds_7 : decode cX7_odds 7 = .ok (.iload_n 2, 1) := by decide +kernel
theorem dX7_odds_8 : decode cX7_odds 8 = .ok (.invokevirtual 106, 3) := by decide +kernel
theorem dX7_odds_11 : decode cX7_odds 11 = .ok (.ifCond .eq 26, 3) := by decide +kernel
theorem dX7_odds_14 : decode cX7_odds 14 = .ok (.iload_n 3, 1) := by decide +kernel
theorem dX7_odds_15 : decode cX7_odds 15 = .ok (.i2l, 1) := by decide +kernel
theorem dX7_odds_16 : decode cX7_odds 16 = .ok (.lconst 1, 1) := by decide +kernel
theorem dX7_odds_17 : decode cX7_odds 17 = .ok (.ldc2_w 249, 3) := by decide +kernel
theorem dX7_odds_20 : decode cX7_odds 20 = .ok (.invokestatic 71, 3) := by decide +kernel
theorem dX7_odds_23 : decode cX7_odds 23 = .ok (.ifCond .eq 14, 3) := by decide +kernel
theorem dX7_odds_26 : decode cX7_odds 26 = .ok (.iload 4, 2) := by decide +kernel
theorem dX7_odds_28 : decode cX7_odds 28 = .ok (.i2l, 1) := by decide +kernel
theorem dX7_odds_29 : decode cX7_odds 29 = .ok (.lconst 0, 1) := by decide +kernel
theorem dX7_odds_30 : decode cX7_odds 30 = .ok (.lconst 1, 1) := by decide +kernel
theorem dX7_odds_31 : decode cX7_odds 31 = .ok (.invokestatic 71, 3) := by decide +kernel
theorem dX7_odds_34 : decode cX7_odds 34 = .ok (.ifCond .ne 5, 3) := by decide +kernel
theorem dX7_odds_37 : decode cX7_odds 37 = .ok (.iconst (-1), 1) := by decide +kernel
theorem dX7_odds_38 : decode cX7_odds 38 = .ok (.ireturn, 1) := by decide +kernel
theorem dX7_odds_39 : decode cX7_odds 39 = .ok (.iconst 0, 1) := by decide +kernel
theorem dX7_odds_40 : decode cX7_odds 40 = .ok (.istore 5, 2) := by decide +kernel
theorem dX7_odds_42 : decode cX7_odds 42 = .ok (.iconst 0, 1) := by decide +kernel
theorem dX7_odds_43 : decode cX7_odds 43 = .ok (.istore 6, 2) := by decide +kernel
theorem dX7_odds_45 : decode cX7_odds 45 = .ok (.iload 6, 2) := by decide +kernel
theorem dX7_odds_47 : decode cX7_odds 47 = .ok (.iload_n 3, 1) := by decide +kernel
theorem dX7_odds_48 : decode cX7_odds 48 = .ok (.if_icmp .ge 47, 3) := by decide +kernel
theorem dX7_odds_51 : decode cX7_odds 51 = .ok (.aload_n 0, 1) := by decide +kernel
theorem dX7_odds_52 : decode cX7_odds 52 = .ok (.getfield 13, 3) := by decide +kernel
theorem dX7_odds_55 : decode cX7_odds 55 = .ok (.bipush 7, 2) := by decide +kernel
theorem dX7_odds_57 : decode cX7_odds 57 = .ok (.iaload, 1) := by decide +kernel
theorem dX7_odds_58 : decode cX7_odds 58 = .ok (.iconst 2, 1) := by decide +kernel
theorem dX7_odds_59 : decode cX7_odds 59 = .ok (.iload 6, 2) := by decide +kernel
theorem dX7_odds_61 : decode cX7_odds 61 = .ok (.imul, 1) := by decide +kernel
theorem dX7_odds_62 : decode cX7_odds 62 = .ok (.iadd, 1) := by decide +kernel
theorem dX7_odds_63 : decode cX7_odds 63 = .ok (.istore 7, 2) := by decide +kernel
theorem dX7_odds_65 : decode cX7_odds 65 = .ok (.iload 5, 2) := by decide +kernel
theorem dX7_odds_67 : decode cX7_odds 67 = .ok (.aload_n 0, 1) := by decide +kernel
theorem dX7_odds_68 : decode cX7_odds 68 = .ok (.iload_n 1, 1) := by decide +kernel
theorem dX7_odds_69 : decode cX7_odds 69 = .ok (.iload_n 2, 1) := by decide +kernel
theorem dX7_odds_70 : decode cX7_odds 70 = .ok (.iload 7, 2) := by decide +kernel
theorem dX7_odds_72 : decode cX7_odds 72 = .ok (.invokevirtual 251, 3) := by decide +kernel
theorem dX7_odds_75 : decode cX7_odds 75 = .ok (.aload_n 0, 1) := by decide +kernel
theorem dX7_odds_76 : decode cX7_odds 76 = .ok (.iload_n 1, 1) := by decide +kernel
theorem dX7_odds_77 : decode cX7_odds 77 = .ok (.iload_n 2, 1) := by decide +kernel
theorem dX7_odds_78 : decode cX7_odds 78 = .ok (.iload 7, 2) := by decide +kernel
theorem dX7_odds_80 : decode cX7_odds 80 = .ok (.iconst 1, 1) := by decide +kernel
theorem dX7_odds_81 : decode cX7_odds 81 = .ok (.iadd, 1) := by decide +kernel
theorem dX7_odds_82 : decode cX7_odds 82 = .ok (.invokevirtual 251, 3) := by decide +kernel
theorem dX7_odds_85 : decode cX7_odds 85 = .ok (.imul, 1) := by decide +kernel
theorem dX7_odds_86 : decode cX7_odds 86 = .ok (.iadd, 1) := by decide +kernel
theorem dX7_odds_87 : decode cX7_odds 87 = .ok (.istore 5, 2) := by decide +kernel
theorem dX7_odds_89 : decode cX7_odds 89 = .ok (.iinc 6 1, 3) := by decide +kernel
theorem dX7_odds_92 : decode cX7_odds 92 = .ok (.goto (-47), 3) := by decide +kernel
theorem dX7_odds_95 : decode cX7_odds 95 = .ok (.iload 4, 2) := by decide +kernel
theorem dX7_odds_97 : decode cX7_odds 97 = .ok (.ifCond .ne 8, 3) := by decide +kernel
theorem dX7_odds_100 : decode cX7_odds 100 = .ok (.iload 5, 2) := by decide +kernel
theorem dX7_odds_102 : decode cX7_odds 102 = .ok (.goto 8, 3) := by decide +kernel
theorem dX7_odds_105 : decode cX7_odds 105 = .ok (.sipush 256, 3) := by decide +kernel
theorem dX7_odds_108 : decode cX7_odds 108 = .ok (.iload_n 3, 1) := by decide +kernel
theorem dX7_odds_109 : decode cX7_odds 109 = .ok (.imul, 1) := by decide +kernel
theorem dX7_odds_110 : decode cX7_odds 110 = .ok (.iload 5, 2) := by decide +kernel
theorem dX7_odds_112 : decode cX7_odds 112 = .ok (.sipush 256, 3) := by decide +kernel
theorem dX7_odds_115 : decode cX7_odds 115 = .ok (.iload_n 3, 1) := by decide +kernel
theorem dX7_odds_116 : decode cX7_odds 116 = .ok (.imul, 1) := by decide +kernel
theorem dX7_odds_117 : decode cX7_odds 117 = .ok (.invokestatic 254, 3) := by decide +kernel
theorem dX7_odds_120 : decode cX7_odds 120 = .ok (.idiv, 1) := by decide +kernel
theorem dX7_odds_121 : decode cX7_odds 121 = .ok (.ireturn, 1) := by decide +kernel
theorem dX7_clashes_0 : decode cX7_clashes 0 = .ok (.aload_n 0, 1) := by decide +kernel
theorem dX7_clashes_1 : decode cX7_clashes 1 = .ok (.iconst 0, 1) := by decide +kernel
theorem dX7_clashes_2 : decode cX7_clashes 2 = .ok (.putfield 50, 3) := by decide +kernel
theorem dX7_clashes_5 : decode cX7_clashes 5 = .ok (.aload_n 0, 1) := by decide +kernel
theorem dX7_clashes_6 : decode cX7_clashes 6 = .ok (.iload_n 1, 1) := by decide +kernel
theorem dX7_clashes_7 : decode cX7_clashes 7 = .ok (.invokevirtual 257, 3) := by decide +kernel
theorem dX7_clashes_10 : decode cX7_clashes 10 = .ok (.ifCond .eq 11, 3) := by decide +kernel
theorem dX7_clashes_13 : decode cX7_clashes 13 = .ok (.aload_n 0, 1) := by decide +kernel
theorem dX7_clashes_14 : decode cX7_clashes 14 = .ok (.iload_n 1, 1) := by decide +kernel
theorem dX7_clashes_15 : decode cX7_clashes 15 = .ok (.invokevirtual 260, 3) := by decide +kernel
theorem dX7_clashes_18 : decode cX7_clashes 18 = .ok (.goto 4, 3) := by decide +kernel
theorem dX7_clashes_21 : decode cX7_clashes 21 = .ok (.iconst (-1), 1) := by decide +kernel
theorem dX7_clashes_22 : decode cX7_clashes 22 = .ok (.ireturn, 1) := by decide +kernel
theorem dX7_bestOffset_0 : decode cX7_bestOffset 0 = .ok (.aload_n 0, 1) := by decide +kernel
theorem dX7_bestOffset_1 : decode cX7_bestOffset 1 = .ok (.iconst 0, 1) := by decide +kernel
theorem dX7_bestOffset_2 : decode cX7_bestOffset 2 = .ok (.putfield 50, 3) := by decide +kernel
theorem dX7_bestOffset_5 : decode cX7_bestOffset 5 = .ok (.aload_n 0, 1) := by decide +kernel
theorem dX7_bestOffset_6 : decode cX7_bestOffset 6 = .ok (.iload_n 1, 1) := by decide +kernel
theorem dX7_bestOffset_7 : decode cX7_bestOffset 7 = .ok (.invokevirtual 257, 3) := by decide +kernel
theorem dX7_bestOffset_10 : decode cX7_bestOffset 10 = .ok (.ifCond .ne 5, 3) := by decide +kernel
theorem dX7_bestOffset_13 : decode cX7_bestOffset 13 = .ok (.iconst (-1), 1) := by decide +kernel
theorem dX7_bestOffset_14 : decode cX7_bestOffset 14 = .ok (.ireturn, 1) := by decide +kernel
theorem dX7_bestOffset_15 : decode cX7_bestOffset 15 = .ok (.iconst 1, 1) := by decide +kernel
theorem dX7_bestOffset_16 : decode cX7_bestOffset 16 = .ok (.invokestatic 75, 3) := by decide +kernel
theorem dX7_bestOffset_19 : decode cX7_bestOffset 19 = .ok (.iconst 1, 1) := by decide +kernel
theorem dX7_bestOffset_20 : decode cX7_bestOffset 20 = .ok (.iadd, 1) := by decide +kernel
theorem dX7_bestOffset_21 : decode cX7_bestOffset 21 = .ok (.istore_n 2, 1) := by decide +kernel
theorem dX7_bestOffset_22 : decode cX7_bestOffset 22 = .ok (.aload_n 0, 1) := by decide +kernel
theorem dX7_bestOffset_23 : decode cX7_bestOffset 23 = .ok (.getfield 13, 3) := by decide +kernel
theorem dX7_bestOffset_26 : decode cX7_bestOffset 26 = .ok (.iload_n 2, 1) := by decide +kernel
theorem dX7_bestOffset_27 : decode cX7_bestOffset 27 = .ok (.iaload, 1) := by decide +kernel
theorem dX7_bestOffset_28 : decode cX7_bestOffset 28 = .ok (.istore_n 3, 1) := by decide +kernel
theorem dX7_bestOffset_29 : decode cX7_bestOffset 29 = .ok (.iconst 0, 1) := by decide +kernel
theorem dX7_bestOffset_30 : decode cX7_bestOffset 30 = .ok (.istore 4, 2) := by decide +kernel
theorem dX7_bestOffset_32 : decode cX7_bestOffset 32 = .ok (.iload_n 1, 1) := by decide +kernel
theorem dX7_bestOffset_33 : decode cX7_bestOffset 33 = .ok (.iconst 1, 1) := by decide +kernel
theorem dX7_bestOffset_34 : decode cX7_bestOffset 34 = .ok (.iadd, 1) := by decide +kernel
theorem dX7_bestOffset_35 : decode cX7_bestOffset 35 = .ok (.istore 5, 2) := by decide +kernel
theorem dX7_bestOffset_37 : decode cX7_bestOffset 37 = .ok (.iconst 0, 1) := by decide +kernel
theorem dX7_bestOffset_38 : decode cX7_bestOffset 38 = .ok (.istore 6, 2) := by decide +kernel
theorem dX7_bestOffset_40 : decode cX7_bestOffset 40 = .ok (.iload 6, 2) := by decide +kernel
theorem dX7_bestOffset_42 : decode cX7_bestOffset 42 = .ok (.bipush 64, 2) := by decide +kernel
theorem dX7_bestOffset_44 : decode cX7_bestOffset 44 = .ok (.if_icmp .ge 56, 3) := by decide +kernel
theorem dX7_bestOffset_47 : decode cX7_bestOffset 47 = .ok (.aload_n 0, 1) := by decide +kernel
theorem dX7_bestOffset_48 : decode cX7_bestOffset 48 = .ok (.getfield 13, 3) := by decide +kernel
theorem dX7_bestOffset_51 : decode cX7_bestOffset 51 = .ok (.iload_n 2, 1) := by decide +kernel
theorem dX7_bestOffset_52 : decode cX7_bestOffset 52 = .ok (.iload 6, 2) := by decide +kernel
theorem dX7_bestOffset_54 : decode cX7_bestOffset 54 = .ok (.iastore, 1) := by decide +kernel
theorem dX7_bestOffset_55 : decode cX7_bestOffset 55 = .ok (.aload_n 0, 1) := by decide +kernel
theorem dX7_bestOffset_56 : decode cX7_bestOffset 56 = .ok (.iload_n 1, 1) := by decide +kernel
theorem dX7_bestOffset_57 : decode cX7_bestOffset 57 = .ok (.invokevirtual 260, 3) := by decide +kernel
theorem dX7_bestOffset_60 : decode cX7_bestOffset 60 = .ok (.istore 7, 2) := by decide +kernel
theorem dX7_bestOffset_62 : decode cX7_bestOffset 62 = .ok (.iload 7, 2) := by decide +kernel
theorem dX7_bestOffset_64 : decode cX7_bestOffset 64 = .ok (.iload 5, 2) := by decide +kernel
theorem dX7_bestOffset_66 : decode cX7_bestOffset 66 = .ok (.if_icmp .ge 8, 3) := by decide +kernel
theorem dX7_bestOffset_69 : decode cX7_bestOffset 69 = .ok (.iload 6, 2) := by decide +kernel
theorem dX7_bestOffset_71 : decode cX7_bestOffset 71 = .ok (.goto 5, 3) := by decide +kernel
theorem dX7_bestOffset_74 : decode cX7_bestOffset 74 = .ok (.iload 4, 2) := by decide +kernel
theorem dX7_bestOffset_76 : decode cX7_bestOffset 76 = .ok (.istore 4, 2) := by decide +kernel
theorem dX7_bestOffset_78 : decode cX7_bestOffset 78 = .ok (.iload 7, 2) := by decide +kernel
theorem dX7_bestOffset_80 : decode cX7_bestOffset 80 = .ok (.iload 5, 2) := by decide +kernel
theorem dX7_bestOffset_82 : decode cX7_bestOffset 82 = .ok (.if_icmp .ge 8, 3) := by decide +kernel
theorem dX7_bestOffset_85 : decode cX7_bestOffset 85 = .ok (.iload 7, 2) := by decide +kernel
theorem dX7_bestOffset_87 : decode cX7_bestOffset 87 = .ok (.goto 5, 3) := by decide +kernel
theorem dX7_bestOffset_90 : decode cX7_bestOffset 90 = .ok (.iload 5, 2) := by decide +kernel
theorem dX7_bestOffset_92 : decode cX7_bestOffset 92 = .ok (.istore 5, 2) := by decide +kernel
theorem dX7_bestOffset_94 : decode cX7_bestOffset 94 = .ok (.iinc 6 1, 3) := by decide +kernel
theorem dX7_bestOffset_97 : decode cX7_bestOffset 97 = .ok (.goto (-57), 3) := by decide +kernel
theorem dX7_bestOffset_100 : decode cX7_bestOffset 100 = .ok (.aload_n 0, 1) := by decide +kernel
theorem dX7_bestOffset_101 : decode cX7_bestOffset 101 = .ok (.getfield 13, 3) := by decide +kernel
theorem dX7_bestOffset_104 : decode cX7_bestOffset 104 = .ok (.iload_n 2, 1) := by decide +kernel
theorem dX7_bestOffset_105 : decode cX7_bestOffset 105 = .ok (.iload_n 3, 1) := by decide +kernel
theorem dX7_bestOffset_106 : decode cX7_bestOffset 106 = .ok (.iastore, 1) := by decide +kernel
theorem dX7_bestOffset_107 : decode cX7_bestOffset 107 = .ok (.iload 4, 2) := by decide +kernel
theorem dX7_bestOffset_109 : decode cX7_bestOffset 109 = .ok (.ireturn, 1) := by decide +kernel
theorem dX7_drain_0 : decode cX7_drain 0 = .ok (.aload_n 0, 1) := by decide +kernel
theorem dX7_drain_1 : decode cX7_drain 1 = .ok (.iconst 0, 1) := by decide +kernel
theorem dX7_drain_2 : decode cX7_drain 2 = .ok (.putfield 50, 3) := by decide +kernel
theorem dX7_drain_5 : decode cX7_drain 5 = .ok (.aload_n 0, 1) := by decide +kernel
theorem dX7_drain_6 : decode cX7_drain 6 = .ok (.iload_n 1, 1) := by decide +kernel
theorem dX7_drain_7 : decode cX7_drain 7 = .ok (.iload_n 2, 1) := by decide +kernel
theorem dX7_drain_8 : decode cX7_drain 8 = .ok (.invokevirtual 106, 3) := by decide +kernel
theorem dX7_drain_11 : decode cX7_drain 11 = .ok (.ifCond .ne 5, 3) := by decide +kernel
theorem dX7_drain_14 : decode cX7_drain 14 = .ok (.iconst (-1), 1) := by decide +kernel
theorem dX7_drain_15 : decode cX7_drain 15 = .ok (.ireturn, 1) := by decide +kernel
theorem dX7_drain_16 : decode cX7_drain 16 = .ok (.aload_n 0, 1) := by decide +kernel
theorem dX7_drain_17 : decode cX7_drain 17 = .ok (.getfield 13, 3) := by decide +kernel
theorem dX7_drain_20 : decode cX7_drain 20 = .ok (.iconst 0, 1) := by decide +kernel
theorem dX7_drain_21 : decode cX7_drain 21 = .ok (.aload_n 0, 1) := by decide +kernel
theorem dX7_drain_22 : decode cX7_drain 22 = .ok (.getfield 29, 3) := by decide +kernel
theorem dX7_drain_25 : decode cX7_drain 25 = .ok (.iconst 0, 1) := by decide +kernel
theorem dX7_drain_26 : decode cX7_drain 26 = .ok (.invokestatic 60, 3) := by decide +kernel
theorem dX7_drain_29 : decode cX7_drain 29 = .ok (.iconst 0, 1) := by decide +kernel
theorem dX7_drain_30 : decode cX7_drain 30 = .ok (.istore_n 3, 1) := by decide +kernel
theorem dX7_drain_31 : decode cX7_drain 31 = .ok (.iload_n 3, 1) := by decide +kernel
theorem dX7_drain_32 : decode cX7_drain 32 = .ok (.sipush 400, 3) := by decide +kernel
theorem dX7_drain_35 : decode cX7_drain 35 = .ok (.if_icmp .ge 34, 3) := by decide +kernel
theorem dX7_drain_38 : decode cX7_drain 38 = .ok (.aload_n 0, 1) := by decide +kernel
theorem dX7_drain_39 : decode cX7_drain 39 = .ok (.getfield 13, 3) := by decide +kernel
theorem dX7_drain_42 : decode cX7_drain 42 = .ok (.bipush 7, 2) := by decide +kernel
theorem dX7_drain_44 : decode cX7_drain 44 = .ok (.iaload, 1) := by decide +kernel
theorem dX7_drain_45 : decode cX7_drain 45 = .ok (.ldc 241, 2) := by decide +kernel
theorem dX7_drain_47 : decode cX7_drain 47 = .ok (.if_icmp .ge 22, 3) := by decide +kernel
theorem dX7_drain_50 : decode cX7_drain 50 = .ok (.aload_n 0, 1) := by decide +kernel
theorem dX7_drain_51 : decode cX7_drain 51 = .ok (.iload_n 1, 1) := by decide +kernel
theorem dX7_drain_52 : decode cX7_drain 52 = .ok (.iload_n 2, 1) := by decide +kernel
theorem dX7_drain_53 : decode cX7_drain 53 = .ok (.invokevirtual 274, 3) := by decide +kernel
theorem dX7_drain_56 : decode cX7_drain 56 = .ok (.ifCond .ne 13, 3) := by decide +kernel
theorem dX7_drain_59 : decode cX7_drain 59 = .ok (.aload_n 0, 1) := by decide +kernel
theorem dX7_drain_60 : decode cX7_drain 60 = .ok (.invokevirtual 236, 3) := by decide +kernel
theorem dX7_drain_63 : decode cX7_drain 63 = .ok (.iinc 3 1, 3) := by decide +kernel
theorem dX7_drain_66 : decode cX7_drain 66 = .ok (.goto (-35), 3) := by decide +kernel
theorem dX7_drain_69 : decode cX7_drain 69 = .ok (.aload_n 0, 1) := by decide +kernel
theorem dX7_drain_70 : decode cX7_drain 70 = .ok (.iload_n 1, 1) := by decide +kernel
theorem dX7_drain_71 : decode cX7_drain 71 = .ok (.iload_n 2, 1) := by decide +kernel
theorem dX7_drain_72 : decode cX7_drain 72 = .ok (.invokevirtual 274, 3) := by decide +kernel
theorem dX7_drain_75 : decode cX7_drain 75 = .ok (.ifCond .eq 7, 3) := by decide +kernel
theorem dX7_drain_78 : decode cX7_drain 78 = .ok (.iload_n 3, 1) := by decide +kernel
theorem dX7_drain_79 : decode cX7_drain 79 = .ok (.goto 4, 3) := by decide +kernel
theorem dX7_drain_82 : decode cX7_drain 82 = .ok (.iconst (-1), 1) := by decide +kernel
theorem dX7_drain_83 : decode cX7_drain 83 = .ok (.istore 4, 2) := by decide +kernel
theorem dX7_drain_85 : decode cX7_drain 85 = .ok (.aload_n 0, 1) := by decide +kernel
theorem dX7_drain_86 : decode cX7_drain 86 = .ok (.getfield 29, 3) := by decide +kernel
theorem dX7_drain_89 : decode cX7_drain 89 = .ok (.iconst 0, 1) := by decide +kernel
theorem dX7_drain_90 : decode cX7_drain 90 = .ok (.aload_n 0, 1) := by decide +kernel
theorem dX7_drain_91 : decode cX7_drain 91 = .ok (.getfield 13, 3) := by decide +kernel
theorem dX7_drain_94 : decode cX7_drain 94 = .ok (.iconst 0, 1) := by decide +kernel
theorem dX7_drain_95 : decode cX7_drain 95 = .ok (.invokestatic 60, 3) := by decide +kernel
theorem dX7_drain_98 : decode cX7_drain 98 = .ok (.iload 4, 2) := by decide +kernel
theorem dX7_drain_100 : decode cX7_drain 100 = .ok (.ireturn, 1) := by decide +kernel
theorem dX7_ready_0 : decode cX7_ready 0 = .ok (.aload_n 0, 1) := by decide +kernel
theorem dX7_ready_1 : decode cX7_ready 1 = .ok (.iconst 0, 1) := by decide +kernel
theorem dX7_ready_2 : decode cX7_ready 2 = .ok (.putfield 50, 3) := by decide +kernel
theorem dX7_ready_5 : decode cX7_ready 5 = .ok (.aload_n 0, 1) := by decide +kernel
theorem dX7_ready_6 : decode cX7_ready 6 = .ok (.iload_n 1, 1) := by decide +kernel
theorem dX7_ready_7 : decode cX7_ready 7 = .ok (.iload_n 2, 1) := by decide +kernel
theorem dX7_ready_8 : decode cX7_ready 8 = .ok (.invokevirtual 106, 3) := by decide +kernel
theorem dX7_ready_11 : decode cX7_ready 11 = .ok (.ifCond .ne 5, 3) := by decide +kernel
theorem dX7_ready_14 : decode cX7_ready 14 = .ok (.iconst (-1), 1) := by decide +kernel
theorem dX7_ready_15 : decode cX7_ready 15 = .ok (.ireturn, 1) := by decide +kernel
theorem dX7_ready_16 : decode cX7_ready 16 = .ok (.iconst (-1), 1) := by decide +kernel
theorem dX7_ready_17 : decode cX7_ready 17 = .ok (.istore_n 3, 1) := by decide +kernel
theorem dX7_ready_18 : decode cX7_ready 18 = .ok (.aload_n 0, 1) := by decide +kernel
theorem dX7_ready_19 : decode cX7_ready 19 = .ok (.getfield 13, 3) := by decide +kernel
theorem dX7_ready_22 : decode cX7_ready 22 = .ok (.bipush 7, 2) := by decide +kernel
theorem dX7_ready_24 : decode cX7_ready 24 = .ok (.iaload, 1) := by decide +kernel
theorem dX7_ready_25 : decode cX7_ready 25 = .ok (.sipush 198, 3) := by decide +kernel
theorem dX7_ready_28 : decode cX7_ready 28 = .ok (.iadd, 1) := by decide +kernel
theorem dX7_ready_29 : decode cX7_ready 29 = .ok (.istore 4, 2) := by decide +kernel
theorem dX7_ready_31 : decode cX7_ready 31 = .ok (.iload 4, 2) := by decide +kernel
theorem dX7_ready_33 : decode cX7_ready 33 = .ok (.aload_n 0, 1) := by decide +kernel
theorem dX7_ready_34 : decode cX7_ready 34 = .ok (.getfield 13, 3) := by decide +kernel
theorem dX7_ready_37 : decode cX7_ready 37 = .ok (.bipush 7, 2) := by decide +kernel
theorem dX7_ready_39 : decode cX7_ready 39 = .ok (.iaload, 1) := by decide +kernel
theorem dX7_ready_40 : decode cX7_ready 40 = .ok (.if_icmp .lt 27, 3) := by decide +kernel
theorem dX7_ready_43 : decode cX7_ready 43 = .ok (.aload_n 0, 1) := by decide +kernel
theorem dX7_ready_44 : decode cX7_ready 44 = .ok (.iload_n 1, 1) := by decide +kernel
theorem dX7_ready_45 : decode cX7_ready 45 = .ok (.iload_n 2, 1) := by decide +kernel
theorem dX7_ready_46 : decode cX7_ready 46 = .ok (.iload 4, 2) := by decide +kernel
theorem dX7_ready_48 : decode cX7_ready 48 = .ok (.invokevirtual 179, 3) := by decide +kernel
theorem dX7_ready_51 : decode cX7_ready 51 = .ok (.ifCond .eq 8, 3) := by decide +kernel
theorem dX7_ready_54 : decode cX7_ready 54 = .ok (.iload 4, 2) := by decide +kernel
theorem dX7_ready_56 : decode cX7_ready 56 = .ok (.goto 4, 3) := by decide +kernel
theorem dX7_ready_59 : decode cX7_ready 59 = .ok (.iload_n 3, 1) := by decide +kernel
theorem dX7_ready_60 : decode cX7_ready 60 = .ok (.istore_n 3, 1) := by decide +kernel
theorem dX7_ready_61 : decode cX7_ready 61 = .ok (.iinc 4 (-2), 3) := by decide +kernel
theorem dX7_ready_64 : decode cX7_ready 64 = .ok (.goto (-33), 3) := by decide +kernel
theorem dX7_ready_67 : decode cX7_ready 67 = .ok (.iload_n 3, 1) := by decide +kernel
theorem dX7_ready_68 : decode cX7_ready 68 = .ok (.ireturn, 1) := by decide +kernel
theorem dX7_bothReady_0 : decode cX7_bothReady 0 = .ok (.aload_n 0, 1) := by decide +kernel
theorem dX7_bothReady_1 : decode cX7_bothReady 1 = .ok (.iconst 0, 1) := by decide +kernel
theorem dX7_bothReady_2 : decode cX7_bothReady 2 = .ok (.putfield 50, 3) := by decide +kernel
theorem dX7_bothReady_5 : decode cX7_bothReady 5 = .ok (.aload_n 0, 1) := by decide +kernel
theorem dX7_bothReady_6 : decode cX7_bothReady 6 = .ok (.iload_n 1, 1) := by decide +kernel
theorem dX7_bothReady_7 : decode cX7_bothReady 7 = .ok (.iload_n 2, 1) := by decide +kernel
theorem dX7_bothReady_8 : decode cX7_bothReady 8 = .ok (.invokevirtual 106, 3) := by decide +kernel
theorem dX7_bothReady_11 : decode cX7_bothReady 11 = .ok (.ifCond .eq 25, 3) := by decide +kernel
theorem dX7_bothReady_14 : decode cX7_bothReady 14 = .ok (.aload_n 0, 1) := by decide +kernel
theorem dX7_bothReady_15 : decode cX7_bothReady 15 = .ok (.iload_n 1, 1) := by decide +kernel
theorem dX7_bothReady_16 : decode cX7_bothReady 16 = .ok (.iload_n 3, 1) := by decide +kernel
theorem dX7_bothReady_17 : decode cX7_bothReady 17 = .ok (.invokevirtual 106, 3) := by decide +kernel
theorem dX7_bothReady_20 : decode cX7_bothReady 20 = .ok (.ifCond .eq 16, 3) := by decide +kernel
theorem dX7_bothReady_23 : decode cX7_bothReady 23 = .ok (.iload 4, 2) := by decide +kernel
theorem dX7_bothReady_25 : decode cX7_bothReady 25 = .ok (.i2l, 1) := by decide +kernel
theorem dX7_bothReady_26 : decode cX7_bothReady 26 = .ok (.lconst 1, 1) := by decide +kernel
theorem dX7_bothReady_27 : decode cX7_bothReady 27 = .ok (.ldc2_w 239, 3) := by decide +kernel
theorem dX7_bothReady_30 : decode cX7_bothReady 30 = .ok (.invokestatic 71, 3) := by decide +kernel
theorem dX7_bothReady_33 : decode cX7_bothReady 33 = .ok (.ifCond .ne 5, 3) := by decide +kernel
theorem dX7_bothReady_36 : decode cX7_bothReady 36 = .ok (.iconst (-1), 1) := by decide +kernel
theorem dX7_bothReady_37 : decode cX7_bothReady 37 = .ok (.ireturn, 1) := by decide +kernel
theorem dX7_bothReady_38 : decode cX7_bothReady 38 = .ok (.iconst 0, 1) := by decide +kernel
theorem dX7_bothReady_39 : decode cX7_bothReady 39 = .ok (.istore 5, 2) := by decide +kernel
theorem dX7_bothReady_41 : decode cX7_bothReady 41 = .ok (.iconst 0, 1) := by decide +kernel
theorem dX7_bothReady_42 : decode cX7_bothReady 42 = .ok (.istore 6, 2) := by decide +kernel
theorem dX7_bothReady_44 : decode cX7_bothReady 44 = .ok (.iload 6, 2) := by decide +kernel
theorem dX7_bothReady_46 : decode cX7_bothReady 46 = .ok (.iload 4, 2) := by decide +kernel
theorem dX7_bothReady_48 : decode cX7_bothReady 48 = .ok (.if_icmp .ge 55, 3) := by decide +kernel
theorem dX7_bothReady_51 : decode cX7_bothReady 51 = .ok (.aload_n 0, 1) := by decide +kernel
theorem dX7_bothReady_52 : decode cX7_bothReady 52 = .ok (.getfield 13, 3) := by decide +kernel
theorem dX7_bothReady_55 : decode cX7_bothReady 55 = .ok (.bipush 7, 2) := by decide +kernel
theorem dX7_bothReady_57 : decode cX7_bothReady 57 = .ok (.iaload, 1) := by decide +kernel
theorem dX7_bothReady_58 : decode cX7_bothReady 58 = .ok (.iconst 2, 1) := by decide +kernel
theorem dX7_bothReady_59 : decode cX7_bothReady 59 = .ok (.iload 6, 2) := by decide +kernel
theorem dX7_bothReady_61 : decode cX7_bothReady 61 = .ok (.imul, 1) := by decide +kernel
theorem dX7_bothReady_62 : decode cX7_bothReady 62 = .ok (.iadd, 1) := by decide +kernel
theorem dX7_bothReady_63 : decode cX7_bothReady 63 = .ok (.istore 7, 2) := by decide +kernel
theorem dX7_bothReady_65 : decode cX7_bothReady 65 = .ok (.iload 5, 2) := by decide +kernel
theorem dX7_bothReady_67 : decode cX7_bothReady 67 = .ok (.aload_n 0, 1) := by decide +kernel
theorem dX7_bothReady_68 : decode cX7_bothReady 68 = .ok (.iload_n 1, 1) := by decide +kernel
theorem dX7_bothReady_69 : decode cX7_bothReady 69 = .ok (.iload_n 2, 1) := by decide +kernel
theorem dX7_bothReady_70 : decode cX7_bothReady 70 = .ok (.iload 7, 2) := by decide +kernel
theorem dX7_bothReady_72 : decode cX7_bothReady 72 = .ok (.invokevirtual 179, 3) := by decide +kernel
theorem dX7_bothReady_75 : decode cX7_bothReady 75 = .ok (.ifCond .eq 18, 3) := by decide +kernel
theorem dX7_bothReady_78 : decode cX7_bothReady 78 = .ok (.aload_n 0, 1) := by decide +kernel
theorem dX7_bothReady_79 : decode cX7_bothReady 79 = .ok (.iload_n 1, 1) := by decide +kernel
theorem dX7_bothReady_80 : decode cX7_bothReady 80 = .ok (.iload_n 3, 1) := by decide +kernel
theorem dX7_bothReady_81 : decode cX7_bothReady 81 = .ok (.iload 7, 2) := by decide +kernel
theorem dX7_bothReady_83 : decode cX7_bothReady 83 = .ok (.invokevirtual 179, 3) := by decide +kernel
theorem dX7_bothReady_86 : decode cX7_bothReady 86 = .ok (.ifCond .eq 7, 3) := by decide +kernel
theorem dX7_bothReady_89 : decode cX7_bothReady 89 = .ok (.iconst 1, 1) := by decide +kernel
theorem dX7_bothReady_90 : decode cX7_bothReady 90 = .ok (.goto 4, 3) := by decide +kernel
theorem dX7_bothReady_93 : decode cX7_bothReady 93 = .ok (.iconst 0, 1) := by decide +kernel
theorem dX7_bothReady_94 : decode cX7_bothReady 94 = .ok (.iadd, 1) := by decide +kernel
theorem dX7_bothReady_95 : decode cX7_bothReady 95 = .ok (.istore 5, 2) := by decide +kernel
theorem dX7_bothReady_97 : decode cX7_bothReady 97 = .ok (.iinc 6 1, 3) := by decide +kernel
theorem dX7_bothReady_100 : decode cX7_bothReady 100 = .ok (.goto (-56), 3) := by decide +kernel
theorem dX7_bothReady_103 : decode cX7_bothReady 103 = .ok (.iload 5, 2) := by decide +kernel
theorem dX7_bothReady_105 : decode cX7_bothReady 105 = .ok (.ireturn, 1) := by decide +kernel
theorem dX7_ahead_0 : decode cX7_ahead 0 = .ok (.aload_n 0, 1) := by decide +kernel
theorem dX7_ahead_1 : decode cX7_ahead 1 = .ok (.iconst 0, 1) := by decide +kernel
theorem dX7_ahead_2 : decode cX7_ahead 2 = .ok (.putfield 50, 3) := by decide +kernel
theorem dX7_ahead_5 : decode cX7_ahead 5 = .ok (.aload_n 0, 1) := by decide +kernel
theorem dX7_ahead_6 : decode cX7_ahead 6 = .ok (.iload_n 1, 1) := by decide +kernel
theorem dX7_ahead_7 : decode cX7_ahead 7 = .ok (.invokevirtual 78, 3) := by decide +kernel
theorem dX7_ahead_10 : decode cX7_ahead 10 = .ok (.ifCond .eq 11, 3) := by decide +kernel
theorem dX7_ahead_13 : decode cX7_ahead 13 = .ok (.aload_n 0, 1) := by decide +kernel
theorem dX7_ahead_14 : decode cX7_ahead 14 = .ok (.iload_n 2, 1) := by decide +kernel
theorem dX7_ahead_15 : decode cX7_ahead 15 = .ok (.invokevirtual 263, 3) := by decide +kernel
theorem dX7_ahead_18 : decode cX7_ahead 18 = .ok (.ifCond .ne 5, 3) := by decide +kernel
theorem dX7_ahead_21 : decode cX7_ahead 21 = .ok (.iconst (-1), 1) := by decide +kernel
theorem dX7_ahead_22 : decode cX7_ahead 22 = .ok (.ireturn, 1) := by decide +kernel
theorem dX7_ahead_23 : decode cX7_ahead 23 = .ok (.aload_n 0, 1) := by decide +kernel
theorem dX7_ahead_24 : decode cX7_ahead 24 = .ok (.getfield 13, 3) := by decide +kernel
theorem dX7_ahead_27 : decode cX7_ahead 27 = .ok (.iconst 0, 1) := by decide +kernel
theorem dX7_ahead_28 : decode cX7_ahead 28 = .ok (.aload_n 0, 1) := by decide +kernel
theorem dX7_ahead_29 : decode cX7_ahead 29 = .ok (.getfield 29, 3) := by decide +kernel
theorem dX7_ahead_32 : decode cX7_ahead 32 = .ok (.iconst 0, 1) := by decide +kernel
theorem dX7_ahead_33 : decode cX7_ahead 33 = .ok (.invokestatic 60, 3) := by decide +kernel
theorem dX7_ahead_36 : decode cX7_ahead 36 = .ok (.aload_n 0, 1) := by decide +kernel
theorem dX7_ahead_37 : decode cX7_ahead 37 = .ok (.iload_n 2, 1) := by decide +kernel
theorem dX7_ahead_38 : decode cX7_ahead 38 = .ok (.invokevirtual 242, 3) := by decide +kernel
theorem dX7_ahead_41 : decode cX7_ahead 41 = .ok (.aload_n 0, 1) := by decide +kernel
theorem dX7_ahead_42 : decode cX7_ahead 42 = .ok (.getfield 29, 3) := by decide +kernel
theorem dX7_ahead_45 : decode cX7_ahead 45 = .ok (.iconst 0, 1) := by decide +kernel
theorem dX7_ahead_46 : decode cX7_ahead 46 = .ok (.aload_n 0, 1) := by decide +kernel
theorem dX7_ahead_47 : decode cX7_ahead 47 = .ok (.getfield 13, 3) := by decide +kernel
theorem dX7_ahead_50 : decode cX7_ahead 50 = .ok (.iconst 0, 1) := by decide +kernel
theorem dX7_ahead_51 : decode cX7_ahead 51 = .ok (.invokestatic 60, 3) := by decide +kernel
theorem dX7_ahead_54 : decode cX7_ahead 54 = .ok (.aload_n 0, 1) := by decide +kernel
theorem dX7_ahead_55 : decode cX7_ahead 55 = .ok (.getfield 32, 3) := by decide +kernel
theorem dX7_ahead_58 : decode cX7_ahead 58 = .ok (.iload_n 1, 1) := by decide +kernel
theorem dX7_ahead_59 : decode cX7_ahead 59 = .ok (.iaload, 1) := by decide +kernel
theorem dX7_ahead_60 : decode cX7_ahead 60 = .ok (.ireturn, 1) := by decide +kernel
theorem dX7_together_0 : decode cX7_together 0 = .ok (.aload_n 0, 1) := by decide +kernel
theorem dX7_together_1 : decode cX7_together 1 = .ok (.iconst 0, 1) := by decide +kernel
theorem dX7_together_2 : decode cX7_together 2 = .ok (.putfield 50, 3) := by decide +kernel
theorem dX7_together_5 : decode cX7_together 5 = .ok (.aload_n 0, 1) := by decide +kernel
theorem dX7_together_6 : decode cX7_together 6 = .ok (.iload_n 1, 1) := by decide +kernel
theorem dX7_together_7 : decode cX7_together 7 = .ok (.iload_n 2, 1) := by decide +kernel
theorem dX7_together_8 : decode cX7_together 8 = .ok (.invokevirtual 106, 3) := by decide +kernel
theorem dX7_together_11 : decode cX7_together 11 = .ok (.ifCond .eq 17, 3) := by decide +kernel
theorem dX7_together_14 : decode cX7_together 14 = .ok (.aload_n 0, 1) := by decide +kernel
theorem dX7_together_15 : decode cX7_together 15 = .ok (.iload_n 1, 1) := by decide +kernel
theorem dX7_together_16 : decode cX7_together 16 = .ok (.iload_n 3, 1) := by decide +kernel
theorem dX7_together_17 : decode cX7_together 17 = .ok (.invokevirtual 106, 3) := by decide +kernel
theorem dX7_together_20 : decode cX7_together 20 = .ok (.ifCond .eq 8, 3) := by decide +kernel
theorem dX7_together_23 : decode cX7_together 23 = .ok (.iload_n 2, 1) := by decide +kernel
theorem dX7_together_24 : decode cX7_together 24 = .ok (.iload_n 3, 1) := by decide +kernel
theorem dX7_together_25 : decode cX7_together 25 = .ok (.if_icmp .ne 5, 3) := by decide +kernel
theorem dX7_together_28 : decode cX7_together 28 = .ok (.iconst (-1), 1) := by decide +kernel
theorem dX7_together_29 : decode cX7_together 29 = .ok (.ireturn, 1) := by decide +kernel
theorem dX7_together_30 : decode cX7_together 30 = .ok (.iconst (-1), 1) := by decide +kernel
theorem dX7_together_31 : decode cX7_together 31 = .ok (.istore 4, 2) := by decide +kernel
theorem dX7_together_33 : decode cX7_together 33 = .ok (.aload_n 0, 1) := by decide +kernel
theorem dX7_together_34 : decode cX7_together 34 = .ok (.getfield 13, 3) := by decide +kernel
theorem dX7_together_37 : decode cX7_together 37 = .ok (.bipush 7, 2) := by decide +kernel
theorem dX7_together_39 : decode cX7_together 39 = .ok (.iaload, 1) := by decide +kernel
theorem dX7_together_40 : decode cX7_together 40 = .ok (.sipush 1998, 3) := by decide +kernel
theorem dX7_together_43 : decode cX7_together 43 = .ok (.iadd, 1) := by decide +kernel
theorem dX7_together_44 : decode cX7_together 44 = .ok (.istore 5, 2) := by decide +kernel
theorem dX7_together_46 : decode cX7_together 46 = .ok (.iload 5, 2) := by decide +kernel
theorem dX7_together_48 : decode cX7_together 48 = .ok (.aload_n 0, 1) := by decide +kernel
theorem dX7_together_49 : decode cX7_together 49 = .ok (.getfield 13, 3) := by decide +kernel
theorem dX7_together_52 : decode cX7_together 52 = .ok (.bipush 7, 2) := by decide +kernel
theorem dX7_together_54 : decode cX7_together 54 = .ok (.iaload, 1) := by decide +kernel
theorem dX7_together_55 : decode cX7_together 55 = .ok (.if_icmp .lt 46, 3) := by decide +kernel
theorem dX7_together_58 : decode cX7_together 58 = .ok (.aload_n 0, 1) := by decide +kernel
theorem dX7_together_59 : decode cX7_together 59 = .ok (.iload_n 1, 1) := by decide +kernel
theorem dX7_together_60 : decode cX7_together 60 = .ok (.iload_n 2, 1) := by decide +kernel
theorem dX7_together_61 : decode cX7_together 61 = .ok (.invokestatic 82, 3) := by decide +kernel
theorem dX7_together_64 : decode cX7_together 64 = .ok (.iload 5, 2) := by decide +kernel
theorem dX7_together_66 : decode cX7_together 66 = .ok (.invokevirtual 266, 3) := by decide +kernel
theorem dX7_together_69 : decode cX7_together 69 = .ok (.ifCond .eq 22, 3) := by decide +kernel
theorem dX7_together_72 : decode cX7_together 72 = .ok (.aload_n 0, 1) := by decide +kernel
theorem dX7_together_73 : decode cX7_together 73 = .ok (.iload_n 1, 1) := by decide +kernel
theorem dX7_together_74 : decode cX7_together 74 = .ok (.iload_n 3, 1) := by decide +kernel
theorem dX7_together_75 : decode cX7_together 75 = .ok (.invokestatic 82, 3) := by decide +kernel
theorem dX7_together_78 : decode cX7_together 78 = .ok (.iload 5, 2) := by decide +kernel
theorem dX7_together_80 : decode cX7_together 80 = .ok (.invokevirtual 266, 3) := by decide +kernel
theorem dX7_together_83 : decode cX7_together 83 = .ok (.ifCond .eq 8, 3) := by decide +kernel
theorem dX7_together_86 : decode cX7_together 86 = .ok (.iload 5, 2) := by decide +kernel
theorem dX7_together_88 : decode cX7_together 88 = .ok (.goto 5, 3) := by decide +kernel
theorem dX7_together_91 : decode cX7_together 91 = .ok (.iload 4, 2) := by decide +kernel
theorem dX7_together_93 : decode cX7_together 93 = .ok (.istore 4, 2) := by decide +kernel
theorem dX7_together_95 : decode cX7_together 95 = .ok (.iinc 5 (-2), 3) := by decide +kernel
theorem dX7_together_98 : decode cX7_together 98 = .ok (.goto (-52), 3) := by decide +kernel
theorem dX7_together_101 : decode cX7_together 101 = .ok (.iload 4, 2) := by decide +kernel
theorem dX7_together_103 : decode cX7_together 103 = .ok (.ireturn, 1) := by decide +kernel
theorem dX7_ranked_0 : decode cX7_ranked 0 = .ok (.aload_n 0, 1) := by decide +kernel
theorem dX7_ranked_1 : decode cX7_ranked 1 = .ok (.iconst 0, 1) := by decide +kernel
theorem dX7_ranked_2 : decode cX7_ranked 2 = .ok (.putfield 50, 3) := by decide +kernel
theorem dX7_ranked_5 : decode cX7_ranked 5 = .ok (.iconst (-1), 1) := by decide +kernel
theorem dX7_ranked_6 : decode cX7_ranked 6 = .ok (.istore_n 3, 1) := by decide +kernel
theorem dX7_ranked_7 : decode cX7_ranked 7 = .ok (.iconst 0, 1) := by decide +kernel
theorem dX7_ranked_8 : decode cX7_ranked 8 = .ok (.istore 4, 2) := by decide +kernel
theorem dX7_ranked_10 : decode cX7_ranked 10 = .ok (.aload_n 0, 1) := by decide +kernel
theorem dX7_ranked_11 : decode cX7_ranked 11 = .ok (.iload_n 1, 1) := by decide +kernel
theorem dX7_ranked_12 : decode cX7_ranked 12 = .ok (.invokevirtual 78, 3) := by decide +kernel
theorem dX7_ranked_15 : decode cX7_ranked 15 = .ok (.ifCond .eq 91, 3) := by decide +kernel
theorem dX7_ranked_18 : decode cX7_ranked 18 = .ok (.iload 4, 2) := by decide +kernel
theorem dX7_ranked_20 : decode cX7_ranked 20 = .ok (.bipush 23, 2) := by decide +kernel
theorem dX7_ranked_22 : decode cX7_ranked 22 = .ok (.if_icmp .ge 84, 3) := by decide +kernel
theorem dX7_ranked_25 : decode cX7_ranked 25 = .ok (.iconst 0, 1) := by decide +kernel
theorem dX7_ranked_26 : decode cX7_ranked 26 = .ok (.istore 5, 2) := by decide +kernel
theorem dX7_ranked_28 : decode cX7_ranked 28 = .ok (.iconst 0, 1) := by decide +kernel
theorem dX7_ranked_29 : decode cX7_ranked 29 = .ok (.istore 6, 2) := by decide +kernel
theorem dX7_ranked_31 : decode cX7_ranked 31 = .ok (.iload 6, 2) := by decide +kernel
theorem dX7_ranked_33 : decode cX7_ranked 33 = .ok (.bipush 23, 2) := by decide +kernel
theorem dX7_ranked_35 : decode cX7_ranked 35 = .ok (.if_icmp .ge 34, 3) := by decide +kernel
theorem dX7_ranked_38 : decode cX7_ranked 38 = .ok (.iload 5, 2) := by decide +kernel
theorem dX7_ranked_40 : decode cX7_ranked 40 = .ok (.aload_n 0, 1) := by decide +kernel
theorem dX7_ranked_41 : decode cX7_ranked 41 = .ok (.iload_n 1, 1) := by decide +kernel
theorem dX7_ranked_42 : decode cX7_ranked 42 = .ok (.invokestatic 75, 3) := by decide +kernel
theorem dX7_ranked_45 : decode cX7_ranked 45 = .ok (.iload 6, 2) := by decide +kernel
theorem dX7_ranked_47 : decode cX7_ranked 47 = .ok (.iload 4, 2) := by decide +kernel
theorem dX7_ranked_49 : decode cX7_ranked 49 = .ok (.invokevirtual 269, 3) := by decide +kernel
theorem dX7_ranked_52 : decode cX7_ranked 52 = .ok (.ifCond .eq 7, 3) := by decide +kernel
theorem dX7_ranked_55 : decode cX7_ranked 55 = .ok (.iconst 1, 1) := by decide +kernel
theorem dX7_ranked_56 : decode cX7_ranked 56 = .ok (.goto 4, 3) := by decide +kernel
theorem dX7_ranked_59 : decode cX7_ranked 59 = .ok (.iconst 0, 1) := by decide +kernel
theorem dX7_ranked_60 : decode cX7_ranked 60 = .ok (.iadd, 1) := by decide +kernel
theorem dX7_ranked_61 : decode cX7_ranked 61 = .ok (.istore 5, 2) := by decide +kernel
theorem dX7_ranked_63 : decode cX7_ranked 63 = .ok (.iinc 6 1, 3) := by decide +kernel
theorem dX7_ranked_66 : decode cX7_ranked 66 = .ok (.goto (-35), 3) := by decide +kernel
theorem dX7_ranked_69 : decode cX7_ranked 69 = .ok (.aload_n 0, 1) := by decide +kernel
theorem dX7_ranked_70 : decode cX7_ranked 70 = .ok (.getfield 13, 3) := by decide +kernel
theorem dX7_ranked_73 : decode cX7_ranked 73 = .ok (.iload_n 1, 1) := by decide +kernel
theorem dX7_ranked_74 : decode cX7_ranked 74 = .ok (.invokestatic 75, 3) := by decide +kernel
theorem dX7_ranked_77 : decode cX7_ranked 77 = .ok (.bipush 16, 2) := by decide +kernel
theorem dX7_ranked_79 : decode cX7_ranked 79 = .ok (.iadd, 1) := by decide +kernel
theorem dX7_ranked_80 : decode cX7_ranked 80 = .ok (.iload 4, 2) := by decide +kernel
theorem dX7_ranked_82 : decode cX7_ranked 82 = .ok (.iadd, 1) := by decide +kernel
theorem dX7_ranked_83 : decode cX7_ranked 83 = .ok (.iaload, 1) := by decide +kernel
theorem dX7_ranked_84 : decode cX7_ranked 84 = .ok (.ifCond .le 14, 3) := by decide +kernel
theorem dX7_ranked_87 : decode cX7_ranked 87 = .ok (.iload 5, 2) := by decide +kernel
theorem dX7_ranked_89 : decode cX7_ranked 89 = .ok (.iload_n 2, 1) := by decide +kernel
theorem dX7_ranked_90 : decode cX7_ranked 90 = .ok (.if_icmp .ne 8, 3) := by decide +kernel
theorem dX7_ranked_93 : decode cX7_ranked 93 = .ok (.iload 4, 2) := by decide +kernel
theorem dX7_ranked_95 : decode cX7_ranked 95 = .ok (.goto 4, 3) := by decide +kernel
theorem dX7_ranked_98 : decode cX7_ranked 98 = .ok (.iload_n 3, 1) := by decide +kernel
theorem dX7_ranked_99 : decode cX7_ranked 99 = .ok (.istore_n 3, 1) := by decide +kernel
theorem dX7_ranked_100 : decode cX7_ranked 100 = .ok (.iinc 4 1, 3) := by decide +kernel
theorem dX7_ranked_103 : decode cX7_ranked 103 = .ok (.goto (-93), 3) := by decide +kernel
theorem dX7_ranked_106 : decode cX7_ranked 106 = .ok (.iload_n 3, 1) := by decide +kernel
theorem dX7_ranked_107 : decode cX7_ranked 107 = .ok (.ireturn, 1) := by decide +kernel
theorem dX7_quiet_0 : decode cX7_quiet 0 = .ok (.aload_n 0, 1) := by decide +kernel
theorem dX7_quiet_1 : decode cX7_quiet 1 = .ok (.iconst 0, 1) := by decide +kernel
theorem dX7_quiet_2 : decode cX7_quiet 2 = .ok (.putfield 50, 3) := by decide +kernel
theorem dX7_quiet_5 : decode cX7_quiet 5 = .ok (.aload_n 0, 1) := by decide +kernel
theorem dX7_quiet_6 : decode cX7_quiet 6 = .ok (.iload_n 1, 1) := by decide +kernel
theorem dX7_quiet_7 : decode cX7_quiet 7 = .ok (.invokevirtual 78, 3) := by decide +kernel
theorem dX7_quiet_10 : decode cX7_quiet 10 = .ok (.ifCond .eq 15, 3) := by decide +kernel
theorem dX7_quiet_13 : decode cX7_quiet 13 = .ok (.iload_n 2, 1) := by decide +kernel
theorem dX7_quiet_14 : decode cX7_quiet 14 = .ok (.i2l, 1) := by decide +kernel
theorem dX7_quiet_15 : decode cX7_quiet 15 = .ok (.lconst 0, 1) := by decide +kernel
theorem dX7_quiet_16 : decode cX7_quiet 16 = .ok (.ldc2_w 272, 3) := by decide +kernel
theorem dX7_quiet_19 : decode cX7_quiet 19 = .ok (.invokestatic 71, 3) := by decide +kernel
theorem dX7_quiet_22 : decode cX7_quiet 22 = .ok (.ifCond .ne 5, 3) := by decide +kernel
theorem dX7_quiet_25 : decode cX7_quiet 25 = .ok (.iconst (-1), 1) := by decide +kernel
theorem dX7_quiet_26 : decode cX7_quiet 26 = .ok (.ireturn, 1) := by decide +kernel
theorem dX7_quiet_27 : decode cX7_quiet 27 = .ok (.iconst 0, 1) := by decide +kernel
theorem dX7_quiet_28 : decode cX7_quiet 28 = .ok (.istore_n 3, 1) := by decide +kernel
theorem dX7_quiet_29 : decode cX7_quiet 29 = .ok (.iconst 0, 1) := by decide +kernel
theorem dX7_quiet_30 : decode cX7_quiet 30 = .ok (.istore 4, 2) := by decide +kernel
theorem dX7_quiet_32 : decode cX7_quiet 32 = .ok (.iload 4, 2) := by decide +kernel
theorem dX7_quiet_34 : decode cX7_quiet 34 = .ok (.aload_n 0, 1) := by decide +kernel
theorem dX7_quiet_35 : decode cX7_quiet 35 = .ok (.getfield 13, 3) := by decide +kernel
theorem dX7_quiet_38 : decode cX7_quiet 38 = .ok (.iload_n 1, 1) := by decide +kernel
theorem dX7_quiet_39 : decode cX7_quiet 39 = .ok (.invokestatic 75, 3) := by decide +kernel
theorem dX7_quiet_42 : decode cX7_quiet 42 = .ok (.bipush 6, 2) := by decide +kernel
theorem dX7_quiet_44 : decode cX7_quiet 44 = .ok (.iadd, 1) := by decide +kernel
theorem dX7_quiet_45 : decode cX7_quiet 45 = .ok (.iaload, 1) := by decide +kernel
theorem dX7_quiet_46 : decode cX7_quiet 46 = .ok (.if_icmp .ge 48, 3) := by decide +kernel
theorem dX7_quiet_49 : decode cX7_quiet 49 = .ok (.iload_n 3, 1) := by decide +kernel
theorem dX7_quiet_50 : decode cX7_quiet 50 = .ok (.aload_n 0, 1) := by decide +kernel
theorem dX7_quiet_51 : decode cX7_quiet 51 = .ok (.getfield 13, 3) := by decide +kernel
theorem dX7_quiet_54 : decode cX7_quiet 54 = .ok (.bipush 7, 2) := by decide +kernel
theorem dX7_quiet_56 : decode cX7_quiet 56 = .ok (.iaload, 1) := by decide +kernel
theorem dX7_quiet_57 : decode cX7_quiet 57 = .ok (.aload_n 0, 1) := by decide +kernel
theorem dX7_quiet_58 : decode cX7_quiet 58 = .ok (.getfield 13, 3) := by decide +kernel
theorem dX7_quiet_61 : decode cX7_quiet 61 = .ok (.iload_n 1, 1) := by decide +kernel
theorem dX7_quiet_62 : decode cX7_quiet 62 = .ok (.iload 4, 2) := by decide +kernel
theorem dX7_quiet_64 : decode cX7_quiet 64 = .ok (.invokestatic 82, 3) := by decide +kernel
theorem dX7_quiet_67 : decode cX7_quiet 67 = .ok (.bipush 49, 2) := by decide +kernel
theorem dX7_quiet_69 : decode cX7_quiet 69 = .ok (.iadd, 1) := by decide +kernel
theorem dX7_quiet_70 : decode cX7_quiet 70 = .ok (.iaload, 1) := by decide +kernel
theorem dX7_quiet_71 : decode cX7_quiet 71 = .ok (.isub, 1) := by decide +kernel
theorem dX7_quiet_72 : decode cX7_quiet 72 = .ok (.iconst 2, 1) := by decide +kernel
theorem dX7_quiet_73 : decode cX7_quiet 73 = .ok (.idiv, 1) := by decide +kernel
theorem dX7_quiet_74 : decode cX7_quiet 74 = .ok (.iload_n 2, 1) := by decide +kernel
theorem dX7_quiet_75 : decode cX7_quiet 75 = .ok (.if_icmp .lt 10, 3) := by decide +kernel
theorem dX7_quiet_78 : decode cX7_quiet 78 = .ok (.iconst 1, 1) := by decide +kernel
theorem dX7_quiet_79 : decode cX7_quiet 79 = .ok (.iload 4, 2) := by decide +kernel
theorem dX7_quiet_81 : decode cX7_quiet 81 = .ok (.ishl, 1) := by decide +kernel
theorem dX7_quiet_82 : decode cX7_quiet 82 = .ok (.goto 4, 3) := by decide +kernel
theorem dX7_quiet_85 : decode cX7_quiet 85 = .ok (.iconst 0, 1) := by decide +kernel
theorem dX7_quiet_86 : decode cX7_quiet 86 = .ok (.ior, 1) := by decide +kernel
theorem dX7_quiet_87 : decode cX7_quiet 87 = .ok (.istore_n 3, 1) := by decide +kernel
theorem dX7_quiet_88 : decode cX7_quiet 88 = .ok (.iinc 4 1, 3) := by decide +kernel
theorem dX7_quiet_91 : decode cX7_quiet 91 = .ok (.goto (-59), 3) := by decide +kernel
theorem dX7_quiet_94 : decode cX7_quiet 94 = .ok (.iload_n 3, 1) := by decide +kernel
theorem dX7_quiet_95 : decode cX7_quiet 95 = .ok (.ireturn, 1) := by decide +kernel
theorem dX7_ofNet_0 : decode cX7_ofNet 0 = .ok (.aload_n 0, 1) := by decide +kernel
theorem dX7_ofNet_1 : decode cX7_ofNet 1 = .ok (.iconst 0, 1) := by decide +kernel
theorem dX7_ofNet_2 : decode cX7_ofNet 2 = .ok (.putfield 50, 3) := by decide +kernel
theorem dX7_ofNet_5 : decode cX7_ofNet 5 = .ok (.aload_n 0, 1) := by decide +kernel
theorem dX7_ofNet_6 : decode cX7_ofNet 6 = .ok (.iload_n 1, 1) := by decide +kernel
theorem dX7_ofNet_7 : decode cX7_ofNet 7 = .ok (.invokevirtual 78, 3) := by decide +kernel
theorem dX7_ofNet_10 : decode cX7_ofNet 10 = .ok (.ifCond .ne 5, 3) := by decide +kernel
theorem dX7_ofNet_13 : decode cX7_ofNet 13 = .ok (.iconst (-1), 1) := by decide +kernel
theorem dX7_ofNet_14 : decode cX7_ofNet 14 = .ok (.ireturn, 1) := by decide +kernel
theorem dX7_ofNet_15 : decode cX7_ofNet 15 = .ok (.iload_n 1, 1) := by decide +kernel
theorem dX7_ofNet_16 : decode cX7_ofNet 16 = .ok (.invokestatic 75, 3) := by decide +kernel
theorem dX7_ofNet_19 : decode cX7_ofNet 19 = .ok (.istore_n 3, 1) := by decide +kernel
theorem dX7_ofNet_20 : decode cX7_ofNet 20 = .ok (.iload_n 2, 1) := by decide +kernel
theorem dX7_ofNet_21 : decode cX7_ofNet 21 = .ok (.tableswitch 108 0 6 #[43, 50, 59, 69, 78, 88, 98], 43) := by decide +kernel
theorem dX7_ofNet_64 : decode cX7_ofNet 64 = .ok (.aload_n 0, 1) := by decide +kernel
theorem dX7_ofNet_65 : decode cX7_ofNet 65 = .ok (.getfield 13, 3) := by decide +kernel
theorem dX7_ofNet_68 : decode cX7_ofNet 68 = .ok (.iload_n 3, 1) := by decide +kernel
theorem dX7_ofNet_69 : decode cX7_ofNet 69 = .ok (.iaload, 1) := by decide +kernel
theorem dX7_ofNet_70 : decode cX7_ofNet 70 = .ok (.ireturn, 1) := by decide +kernel
theorem dX7_ofNet_71 : decode cX7_ofNet 71 = .ok (.aload_n 0, 1) := by decide +kernel
theorem dX7_ofNet_72 : decode cX7_ofNet 72 = .ok (.getfield 13, 3) := by decide +kernel
theorem dX7_ofNet_75 : decode cX7_ofNet 75 = .ok (.iload_n 3, 1) := by decide +kernel
theorem dX7_ofNet_76 : decode cX7_ofNet 76 = .ok (.iconst 1, 1) := by decide +kernel
theorem dX7_ofNet_77 : decode cX7_ofNet 77 = .ok (.iadd, 1) := by decide +kernel
theorem dX7_ofNet_78 : decode cX7_ofNet 78 = .ok (.iaload, 1) := by decide +kernel
theorem dX7_ofNet_79 : decode cX7_ofNet 79 = .ok (.ireturn, 1) := by decide +kernel
theorem dX7_ofNet_80 : decode cX7_ofNet 80 = .ok (.aload_n 0, 1) := by decide +kernel
theorem dX7_ofNet_81 : decode cX7_ofNet 81 = .ok (.getfield 13, 3) := by decide +kernel
theorem dX7_ofNet_84 : decode cX7_ofNet 84 = .ok (.iload_n 3, 1) := by decide +kernel
theorem dX7_ofNet_85 : decode cX7_ofNet 85 = .ok (.bipush 6, 2) := by decide +kernel
theorem dX7_ofNet_87 : decode cX7_ofNet 87 = .ok (.iadd, 1) := by decide +kernel
theorem dX7_ofNet_88 : decode cX7_ofNet 88 = .ok (.iaload, 1) := by decide +kernel
theorem dX7_ofNet_89 : decode cX7_ofNet 89 = .ok (.ireturn, 1) := by decide +kernel
theorem dX7_ofNet_90 : decode cX7_ofNet 90 = .ok (.aload_n 0, 1) := by decide +kernel
theorem dX7_ofNet_91 : decode cX7_ofNet 91 = .ok (.getfield 13, 3) := by decide +kernel
theorem dX7_ofNet_94 : decode cX7_ofNet 94 = .ok (.iload_n 3, 1) := by decide +kernel
theorem dX7_ofNet_95 : decode cX7_ofNet 95 = .ok (.iconst 5, 1) := by decide +kernel
theorem dX7_ofNet_96 : decode cX7_ofNet 96 = .ok (.iadd, 1) := by decide +kernel
theorem dX7_ofNet_97 : decode cX7_ofNet 97 = .ok (.iaload, 1) := by decide +kernel
theorem dX7_ofNet_98 : decode cX7_ofNet 98 = .ok (.ireturn, 1) := by decide +kernel
theorem dX7_ofNet_99 : decode cX7_ofNet 99 = .ok (.aload_n 0, 1) := by decide +kernel
theorem dX7_ofNet_100 : decode cX7_ofNet 100 = .ok (.getfield 13, 3) := by decide +kernel
theorem dX7_ofNet_103 : decode cX7_ofNet 103 = .ok (.iload_n 3, 1) := by decide +kernel
theorem dX7_ofNet_104 : decode cX7_ofNet 104 = .ok (.bipush 9, 2) := by decide +kernel
theorem dX7_ofNet_106 : decode cX7_ofNet 106 = .ok (.iadd, 1) := by decide +kernel
theorem dX7_ofNet_107 : decode cX7_ofNet 107 = .ok (.iaload, 1) := by decide +kernel
theorem dX7_ofNet_108 : decode cX7_ofNet 108 = .ok (.ireturn, 1) := by decide +kernel
theorem dX7_ofNet_109 : decode cX7_ofNet 109 = .ok (.aload_n 0, 1) := by decide +kernel
theorem dX7_ofNet_110 : decode cX7_ofNet 110 = .ok (.getfield 13, 3) := by decide +kernel
theorem dX7_ofNet_113 : decode cX7_ofNet 113 = .ok (.iload_n 3, 1) := by decide +kernel
theorem dX7_ofNet_114 : decode cX7_ofNet 114 = .ok (.bipush 15, 2) := by decide +kernel
theorem dX7_ofNet_116 : decode cX7_ofNet 116 = .ok (.iadd, 1) := by decide +kernel
theorem dX7_ofNet_117 : decode cX7_ofNet 117 = .ok (.iaload, 1) := by decide +kernel
theorem dX7_ofNet_118 : decode cX7_ofNet 118 = .ok (.ireturn, 1) := by decide +kernel
theorem dX7_ofNet_119 : decode cX7_ofNet 119 = .ok (.aload_n 0, 1) := by decide +kernel
theorem dX7_ofNet_120 : decode cX7_ofNet 120 = .ok (.getfield 13, 3) := by decide +kernel
theorem dX7_ofNet_123 : decode cX7_ofNet 123 = .ok (.iload_n 3, 1) := by decide +kernel
theorem dX7_ofNet_124 : decode cX7_ofNet 124 = .ok (.bipush 14, 2) := by decide +kernel
theorem dX7_ofNet_126 : decode cX7_ofNet 126 = .ok (.iadd, 1) := by decide +kernel
theorem dX7_ofNet_127 : decode cX7_ofNet 127 = .ok (.iaload, 1) := by decide +kernel
theorem dX7_ofNet_128 : decode cX7_ofNet 128 = .ok (.ireturn, 1) := by decide +kernel
theorem dX7_ofNet_129 : decode cX7_ofNet 129 = .ok (.iconst (-1), 1) := by decide +kernel
theorem dX7_ofNet_130 : decode cX7_ofNet 130 = .ok (.ireturn, 1) := by decide +kernel
theorem dX7_hash_0 : decode cX7_hash 0 = .ok (.aload_n 0, 1) := by decide +kernel
theorem dX7_hash_1 : decode cX7_hash 1 = .ok (.iconst 0, 1) := by decide +kernel
theorem dX7_hash_2 : decode cX7_hash 2 = .ok (.putfield 50, 3) := by decide +kernel
theorem dX7_hash_5 : decode cX7_hash 5 = .ok (.aload_n 0, 1) := by decide +kernel
theorem dX7_hash_6 : decode cX7_hash 6 = .ok (.iload_n 1, 1) := by decide +kernel
theorem dX7_hash_7 : decode cX7_hash 7 = .ok (.iload_n 2, 1) := by decide +kernel
theorem dX7_hash_8 : decode cX7_hash 8 = .ok (.invokevirtual 106, 3) := by decide +kernel
theorem dX7_hash_11 : decode cX7_hash 11 = .ok (.ifCond .eq 50, 3) := by decide +kernel
theorem dX7_hash_14 : decode cX7_hash 14 = .ok (.iload_n 3, 1) := by decide +kernel
theorem dX7_hash_15 : decode cX7_hash 15 = .ok (.i2l, 1) := by decide +kernel
theorem dX7_hash_16 : decode cX7_hash 16 = .ok (.lconst 0, 1) := by decide +kernel
theorem dX7_hash_17 : decode cX7_hash 17 = .ok (.ldc2_w 134, 3) := by decide +kernel
theorem dX7_hash_20 : decode cX7_hash 20 = .ok (.invokestatic 71, 3) := by decide +kernel
theorem dX7_hash_23 : decode cX7_hash 23 = .ok (.ifCond .eq 38, 3) := by decide +kernel
theorem dX7_hash_26 : decode cX7_hash 26 = .ok (.aload_n 0, 1) := by decide +kernel
theorem dX7_hash_27 : decode cX7_hash 27 = .ok (.getfield 13, 3) := by decide +kernel
theorem dX7_hash_30 : decode cX7_hash 30 = .ok (.iload_n 1, 1) := by decide +kernel
theorem dX7_hash_31 : decode cX7_hash 31 = .ok (.iload_n 2, 1) := by decide +kernel
theorem dX7_hash_32 : decode cX7_hash 32 = .ok (.invokestatic 82, 3) := by decide +kernel
theorem dX7_hash_35 : decode cX7_hash 35 = .ok (.iload_n 3, 1) := by decide +kernel
theorem dX7_hash_36 : decode cX7_hash 36 = .ok (.ifCond .ne 8, 3) := by decide +kernel
theorem dX7_hash_39 : decode cX7_hash 39 = .ok (.bipush 28, 2) := by decide +kernel
theorem dX7_hash_41 : decode cX7_hash 41 = .ok (.goto 15, 3) := by decide +kernel
theorem dX7_hash_44 : decode cX7_hash 44 = .ok (.iload_n 3, 1) := by decide +kernel
theorem dX7_hash_45 : decode cX7_hash 45 = .ok (.iconst 1, 1) := by decide +kernel
theorem dX7_hash_46 : decode cX7_hash 46 = .ok (.if_icmp .ne 8, 3) := by decide +kernel
theorem dX7_hash_49 : decode cX7_hash 49 = .ok (.bipush 30, 2) := by decide +kernel
theorem dX7_hash_51 : decode cX7_hash 51 = .ok (.goto 5, 3) := by decide +kernel
theorem dX7_hash_54 : decode cX7_hash 54 = .ok (.bipush 44, 2) := by decide +kernel
theorem dX7_hash_56 : decode cX7_hash 56 = .ok (.iadd, 1) := by decide +kernel
theorem dX7_hash_57 : decode cX7_hash 57 = .ok (.iaload, 1) := by decide +kernel
theorem dX7_hash_58 : decode cX7_hash 58 = .ok (.goto 4, 3) := by decide +kernel
theorem dX7_hash_61 : decode cX7_hash 61 = .ok (.iconst 0, 1) := by decide +kernel
theorem dX7_hash_62 : decode cX7_hash 62 = .ok (.ireturn, 1) := by decide +kernel
theorem dX7_isThere_0 : decode cX7_isThere 0 = .ok (.aload_n 0, 1) := by decide +kernel
theorem dX7_isThere_1 : decode cX7_isThere 1 = .ok (.iconst 0, 1) := by decide +kernel
theorem dX7_isThere_2 : decode cX7_isThere 2 = .ok (.putfield 50, 3) := by decide +kernel
theorem dX7_isThere_5 : decode cX7_isThere 5 = .ok (.aload_n 0, 1) := by decide +kernel
theorem dX7_isThere_6 : decode cX7_isThere 6 = .ok (.iload_n 1, 1) := by decide +kernel
theorem dX7_isThere_7 : decode cX7_isThere 7 = .ok (.invokevirtual 124, 3) := by decide +kernel
theorem dX7_isThere_10 : decode cX7_isThere 10 = .ok (.ifCond .eq 43, 3) := by decide +kernel
theorem dX7_isThere_13 : decode cX7_isThere 13 = .ok (.iload_n 2, 1) := by decide +kernel
theorem dX7_isThere_14 : decode cX7_isThere 14 = .ok (.i2l, 1) := by decide +kernel
theorem dX7_isThere_15 : decode cX7_isThere 15 = .ok (.lconst 0, 1) := by decide +kernel
theorem dX7_isThere_16 : decode cX7_isThere 16 = .ok (.lconst 1, 1) := by decide +kernel
theorem dX7_isThere_17 : decode cX7_isThere 17 = .ok (.invokestatic 71, 3) := by decide +kernel
theorem dX7_isThere_20 : decode cX7_isThere 20 = .ok (.ifCond .eq 33, 3) := by decide +kernel
theorem dX7_isThere_23 : decode cX7_isThere 23 = .ok (.iload_n 3, 1) := by decide +kernel
theorem dX7_isThere_24 : decode cX7_isThere 24 = .ok (.i2l, 1) := by decide +kernel
theorem dX7_isThere_25 : decode cX7_isThere 25 = .ok (.lconst 0, 1) := by decide +kernel
theorem dX7_isThere_26 : decode cX7_isThere 26 = .ok (.ldc2_w 109, 3) := by decide +kernel
theorem dX7_isThere_29 : decode cX7_isThere 29 = .ok (.invokestatic 71, 3) := by decide +kernel
theorem dX7_isThere_32 : decode cX7_isThere 32 = .ok (.ifCond .eq 21, 3) := by decide +kernel
theorem dX7_isThere_35 : decode cX7_isThere 35 = .ok (.aload_n 0, 1) := by decide +kernel
theorem dX7_isThere_36 : decode cX7_isThere 36 = .ok (.iload_n 2, 1) := by decide +kernel
theorem dX7_isThere_37 : decode cX7_isThere 37 = .ok (.iload_n 1, 1) := by decide +kernel
theorem dX7_isThere_38 : decode cX7_isThere 38 = .ok (.iload_n 3, 1) := by decide +kernel
theorem dX7_isThere_39 : decode cX7_isThere 39 = .ok (.invokevirtual 176, 3) := by decide +kernel
theorem dX7_isThere_42 : decode cX7_isThere 42 = .ok (.ifCond .eq 7, 3) := by decide +kernel
theorem dX7_isThere_45 : decode cX7_isThere 45 = .ok (.iconst 1, 1) := by decide +kernel
theorem dX7_isThere_46 : decode cX7_isThere 46 = .ok (.goto 8, 3) := by decide +kernel
theorem dX7_isThere_49 : decode cX7_isThere 49 = .ok (.iconst 0, 1) := by decide +kernel
theorem dX7_isThere_50 : decode cX7_isThere 50 = .ok (.goto 4, 3) := by decide +kernel
theorem dX7_isThere_53 : decode cX7_isThere 53 = .ok (.iconst (-1), 1) := by decide +kernel
theorem dX7_isThere_54 : decode cX7_isThere 54 = .ok (.ireturn, 1) := by decide +kernel
theorem dX7_status_0 : decode cX7_status 0 = .ok (.aload_n 0, 1) := by decide +kernel
theorem dX7_status_1 : decode cX7_status 1 = .ok (.iconst 0, 1) := by decide +kernel
theorem dX7_status_2 : decode cX7_status 2 = .ok (.putfield 50, 3) := by decide +kernel
theorem dX7_status_5 : decode cX7_status 5 = .ok (.aload_n 0, 1) := by decide +kernel
theorem dX7_status_6 : decode cX7_status 6 = .ok (.getfield 54, 3) := by decide +kernel
theorem dX7_status_9 : decode cX7_status 9 = .ok (.ireturn, 1) := by decide +kernel
theorem dX7_count_0 : decode cX7_count 0 = .ok (.aload_n 0, 1) := by decide +kernel
theorem dX7_count_1 : decode cX7_count 1 = .ok (.iconst 0, 1) := by decide +kernel
theorem dX7_count_2 : decode cX7_count 2 = .ok (.putfield 50, 3) := by decide +kernel
theorem dX7_count_5 : decode cX7_count 5 = .ok (.iload_n 1, 1) := by decide +kernel
theorem dX7_count_6 : decode cX7_count 6 = .ok (.tableswitch 180 0 19 #[94, 102, 109, 117, 125, 130, 137, 144, 151, 158, 180, 180, 180, 180, 180, 180, 180, 180, 163, 171], 94) := by decide +kernel
theorem dX7_count_100 : decode cX7_count 100 = .ok (.aload_n 0, 1) := by decide +kernel
theorem dX7_count_101 : decode cX7_count 101 = .ok (.getfield 13, 3) := by decide +kernel
theorem dX7_count_104 : decode cX7_count 104 = .ok (.bipush 7, 2) := by decide +kernel
theorem dX7_count_106 : decode cX7_count 106 = .ok (.iaload, 1) := by decide +kernel
theorem dX7_count_107 : decode cX7_count 107 = .ok (.ireturn, 1) := by decide +kernel
theorem dX7_count_108 : decode cX7_count 108 = .ok (.aload_n 0, 1) := by decide +kernel
theorem dX7_count_109 : decode cX7_count 109 = .ok (.getfield 13, 3) := by decide +kernel
theorem dX7_count_112 : decode cX7_count 112 = .ok (.iconst 0, 1) := by decide +kernel
theorem dX7_count_113 : decode cX7_count 113 = .ok (.iaload, 1) := by decide +kernel
theorem dX7_count_114 : decode cX7_count 114 = .ok (.ireturn, 1) := by decide +kernel
theorem dX7_count_115 : decode cX7_count 115 = .ok (.aload_n 0, 1) := by decide +kernel
theorem dX7_count_116 : decode cX7_count 116 = .ok (.getfield 13, 3) := by decide +kernel
theorem dX7_count_119 : decode cX7_count 119 = .ok (.bipush 8, 2) := by decide +kernel
theorem dX7_count_121 : decode cX7_count 121 = .ok (.iaload, 1) := by decide +kernel
theorem dX7_count_122 : decode cX7_count 122 = .ok (.ireturn, 1) := by decide +kernel
theorem dX7_count_123 : decode cX7_count 123 = .ok (.aload_n 0, 1) := by decide +kernel
theorem dX7_count_124 : decode cX7_count 124 = .ok (.getfield 13, 3) := by decide +kernel
theorem dX7_count_127 : decode cX7_count 127 = .ok (.bipush 9, 2) := by decide +kernel
theorem dX7_count_129 : decode cX7_count 129 = .ok (.iaload, 1) := by decide +kernel
theorem dX7_count_130 : decode cX7_count 130 = .ok (.ireturn, 1) := by decide +kernel
theorem dX7_count_131 : decode cX7_count 131 = .ok (.aload_n 0, 1) := by decide +kernel
theorem dX7_count_132 : decode cX7_count 132 = .ok (.invokevirtual 283, 3) := by decide +kernel
theorem dX7_count_135 : decode cX7_count 135 = .ok (.ireturn, 1) := by decide +kernel
theorem dX7_count_136 : decode cX7_count 136 = .ok (.aload_n 0, 1) := by decide +kernel
theorem dX7_count_137 : decode cX7_count 137 = .ok (.getfield 7, 3) := by decide +kernel
theorem dX7_count_140 : decode cX7_count 140 = .ok (.iconst 1, 1) := by decide +kernel
theorem dX7_count_141 : decode cX7_count 141 = .ok (.iaload, 1) := by decide +kernel
theorem dX7_count_142 : decode cX7_count 142 = .ok (.ireturn, 1) := by decide +kernel
theorem dX7_count_143 : decode cX7_count 143 = .ok (.aload_n 0, 1) := by decide +kernel
theorem dX7_count_144 : decode cX7_count 144 = .ok (.getfield 7, 3) := by decide +kernel
theorem dX7_count_147 : decode cX7_count 147 = .ok (.iconst 2, 1) := by decide +kernel
theorem dX7_count_148 : decode cX7_count 148 = .ok (.iaload, 1) := by decide +kernel
theorem dX7_count_149 : decode cX7_count 149 = .ok (.ireturn, 1) := by decide +kernel
theorem dX7_count_150 : decode cX7_count 150 = .ok (.aload_n 0, 1) := by decide +kernel
theorem dX7_count_151 : decode cX7_count 151 = .ok (.getfield 7, 3) := by decide +kernel
theorem dX7_count_154 : decode cX7_count 154 = .ok (.iconst 4, 1) := by decide +kernel
theorem dX7_count_155 : decode cX7_count 155 = .ok (.iaload, 1) := by decide +kernel
theorem dX7_count_156 : decode cX7_count 156 = .ok (.ireturn, 1) := by decide +kernel
theorem dX7_count_157 : decode cX7_count 157 = .ok (.aload_n 0, 1) := by decide +kernel
theorem dX7_count_158 : decode cX7_count 158 = .ok (.getfield 7, 3) := by decide +kernel
theorem dX7_count_161 : decode cX7_count 161 = .ok (.iconst 5, 1) := by decide +kernel
theorem dX7_count_162 : decode cX7_count 162 = .ok (.iaload, 1) := by decide +kernel
theorem dX7_count_163 : decode cX7_count 163 = .ok (.ireturn, 1) := by decide +kernel
theorem dX7_count_164 : decode cX7_count 164 = .ok (.aload_n 0, 1) := by decide +kernel
theorem dX7_count_165 : decode cX7_count 165 = .ok (.getfield 57, 3) := by decide +kernel
theorem dX7_count_168 : decode cX7_count 168 = .ok (.ireturn, 1) := by decide +kernel
theorem dX7_count_169 : decode cX7_count 169 = .ok (.aload_n 0, 1) := by decide +kernel
theorem dX7_count_170 : decode cX7_count 170 = .ok (.getfield 13, 3) := by decide +kernel
theorem dX7_count_173 : decode cX7_count 173 = .ok (.bipush 10, 2) := by decide +kernel
theorem dX7_count_175 : decode cX7_count 175 = .ok (.iaload, 1) := by decide +kernel
theorem dX7_count_176 : decode cX7_count 176 = .ok (.ireturn, 1) := by decide +kernel
theorem dX7_count_177 : decode cX7_count 177 = .ok (.aload_n 0, 1) := by decide +kernel
theorem dX7_count_178 : decode cX7_count 178 = .ok (.getfield 13, 3) := by decide +kernel
theorem dX7_count_181 : decode cX7_count 181 = .ok (.sipush 694, 3) := by decide +kernel
theorem dX7_count_184 : decode cX7_count 184 = .ok (.iaload, 1) := by decide +kernel
theorem dX7_count_185 : decode cX7_count 185 = .ok (.ireturn, 1) := by decide +kernel
theorem dX7_count_186 : decode cX7_count 186 = .ok (.iload_n 1, 1) := by decide +kernel
theorem dX7_count_187 : decode cX7_count 187 = .ok (.i2l, 1) := by decide +kernel
theorem dX7_count_188 : decode cX7_count 188 = .ok (.ldc2_w 286, 3) := by decide +kernel
theorem dX7_count_191 : decode cX7_count 191 = .ok (.ldc2_w 288, 3) := by decide +kernel
theorem dX7_count_194 : decode cX7_count 194 = .ok (.invokestatic 71, 3) := by decide +kernel
theorem dX7_count_197 : decode cX7_count 197 = .ok (.ifCond .eq 18, 3) := by decide +kernel
theorem dX7_count_200 : decode cX7_count 200 = .ok (.aload_n 0, 1) := by decide +kernel
theorem dX7_count_201 : decode cX7_count 201 = .ok (.getfield 13, 3) := by decide +kernel
theorem dX7_count_204 : decode cX7_count 204 = .ok (.bipush 11, 2) := by decide +kernel
theorem dX7_count_206 : decode cX7_count 206 = .ok (.iload_n 1, 1) := by decide +kernel
theorem dX7_count_207 : decode cX7_count 207 = .ok (.iadd, 1) := by decide +kernel
theorem dX7_count_208 : decode cX7_count 208 = .ok (.bipush 10, 2) := by decide +kernel
theorem dX7_count_210 : decode cX7_count 210 = .ok (.isub, 1) := by decide +kernel
theorem dX7_count_211 : decode cX7_count 211 = .ok (.iaload, 1) := by decide +kernel
theorem dX7_count_212 : decode cX7_count 212 = .ok (.goto 4, 3) := by decide +kernel
theorem dX7_count_215 : decode cX7_count 215 = .ok (.iconst (-1), 1) := by decide +kernel
theorem dX7_count_216 : decode cX7_count 216 = .ok (.ireturn, 1) := by decide +kernel
theorem dX7_would_0 : decode cX7_would 0 = .ok (.aload_n 0, 1) := by decide +kernel
theorem dX7_would_1 : decode cX7_would 1 = .ok (.iconst 0, 1) := by decide +kernel
theorem dX7_would_2 : decode cX7_would 2 = .ok (.putfield 50, 3) := by decide +kernel
theorem dX7_would_5 : decode cX7_would 5 = .ok (.iload_n 1, 1) := by decide +kernel
theorem dX7_would_6 : decode cX7_would 6 = .ok (.invokestatic 138, 3) := by decide +kernel
theorem dX7_would_9 : decode cX7_would 9 = .ok (.ifCond .eq 33, 3) := by decide +kernel
theorem dX7_would_12 : decode cX7_would 12 = .ok (.aload_n 0, 1) := by decide +kernel
theorem dX7_would_13 : decode cX7_would 13 = .ok (.iload_n 2, 1) := by decide +kernel
theorem dX7_would_14 : decode cX7_would 14 = .ok (.invokevirtual 263, 3) := by decide +kernel
theorem dX7_would_17 : decode cX7_would 17 = .ok (.ifCond .eq 25, 3) := by decide +kernel
theorem dX7_would_20 : decode cX7_would 20 = .ok (.iload_n 3, 1) := by decide +kernel
theorem dX7_would_21 : decode cX7_would 21 = .ok (.i2l, 1) := by decide +kernel
theorem dX7_would_22 : decode cX7_would 22 = .ok (.lconst 0, 1) := by decide +kernel
theorem dX7_would_23 : decode cX7_would 23 = .ok (.ldc2_w 134, 3) := by decide +kernel
theorem dX7_would_26 : decode cX7_would 26 = .ok (.invokestatic 71, 3) := by decide +kernel
theorem dX7_would_29 : decode cX7_would 29 = .ok (.ifCond .eq 13, 3) := by decide +kernel
theorem dX7_would_32 : decode cX7_would 32 = .ok (.aload_n 0, 1) := by decide +kernel
theorem dX7_would_33 : decode cX7_would 33 = .ok (.iload_n 1, 1) := by decide +kernel
theorem dX7_would_34 : decode cX7_would 34 = .ok (.iload_n 2, 1) := by decide +kernel
theorem dX7_would_35 : decode cX7_would 35 = .ok (.iload_n 3, 1) := by decide +kernel
theorem dX7_would_36 : decode cX7_would 36 = .ok (.invokevirtual 280, 3) := by decide +kernel
theorem dX7_would_39 : decode cX7_would 39 = .ok (.goto 4, 3) := by decide +kernel
theorem dX7_would_42 : decode cX7_would 42 = .ok (.iconst (-1), 1) := by decide +kernel
theorem dX7_would_43 : decode cX7_would 43 = .ok (.ireturn, 1) := by decide +kernel
theorem dX7_bestShare_0 : decode cX7_bestShare 0 = .ok (.aload_n 0, 1) := by decide +kernel
theorem dX7_bestShare_1 : decode cX7_bestShare 1 = .ok (.iconst 0, 1) := by decide +kernel
theorem dX7_bestShare_2 : decode cX7_bestShare 2 = .ok (.putfield 50, 3) := by decide +kernel
theorem dX7_bestShare_5 : decode cX7_bestShare 5 = .ok (.iload_n 1, 1) := by decide +kernel
theorem dX7_bestShare_6 : decode cX7_bestShare 6 = .ok (.i2l, 1) := by decide +kernel
theorem dX7_bestShare_7 : decode cX7_bestShare 7 = .ok (.lconst 1, 1) := by decide +kernel
theorem dX7_bestShare_8 : decode cX7_bestShare 8 = .ok (.ldc2_w 132, 3) := by decide +kernel
theorem dX7_bestShare_11 : decode cX7_bestShare 11 = .ok (.invokestatic 71, 3) := by decide +kernel
theorem dX7_bestShare_14 : decode cX7_bestShare 14 = .ok (.ifCond .eq 11, 3) := by decide +kernel
theorem dX7_bestShare_17 : decode cX7_bestShare 17 = .ok (.aload_n 0, 1) := by decide +kernel
theorem dX7_bestShare_18 : decode cX7_bestShare 18 = .ok (.iload_n 1, 1) := by decide +kernel
theorem dX7_bestShare_19 : decode cX7_bestShare 19 = .ok (.invokevirtual 263, 3) := by decide +kernel
theorem dX7_bestShare_22 : decode cX7_bestShare 22 = .ok (.ifCond .ne 5, 3) := by decide +kernel
theorem dX7_bestShare_25 : decode cX7_bestShare 25 = .ok (.iconst (-1), 1) := by decide +kernel
theorem dX7_bestShare_26 : decode cX7_bestShare 26 = .ok (.ireturn, 1) := by decide +kernel
theorem dX7_bestShare_27 : decode cX7_bestShare 27 = .ok (.iconst (-1), 1) := by decide +kernel
theorem dX7_bestShare_28 : decode cX7_bestShare 28 = .ok (.istore_n 2, 1) := by decide +kernel
theorem dX7_bestShare_29 : decode cX7_bestShare 29 = .ok (.iconst (-1), 1) := by decide +kernel
theorem dX7_bestShare_30 : decode cX7_bestShare 30 = .ok (.istore_n 3, 1) := by decide +kernel
theorem dX7_bestShare_31 : decode cX7_bestShare 31 = .ok (.iconst 0, 1) := by decide +kernel
theorem dX7_bestShare_32 : decode cX7_bestShare 32 = .ok (.istore 4, 2) := by decide +kernel
theorem dX7_bestShare_34 : decode cX7_bestShare 34 = .ok (.iload 4, 2) := by decide +kernel
theorem dX7_bestShare_36 : decode cX7_bestShare 36 = .ok (.bipush 32, 2) := by decide +kernel
theorem dX7_bestShare_38 : decode cX7_bestShare 38 = .ok (.if_icmp .gt 45, 3) := by decide +kernel
theorem dX7_bestShare_41 : decode cX7_bestShare 41 = .ok (.aload_n 0, 1) := by decide +kernel
theorem dX7_bestShare_42 : decode cX7_bestShare 42 = .ok (.iload 4, 2) := by decide +kernel
theorem dX7_bestShare_44 : decode cX7_bestShare 44 = .ok (.iload_n 1, 1) := by decide +kernel
theorem dX7_bestShare_45 : decode cX7_bestShare 45 = .ok (.iconst 0, 1) := by decide +kernel
theorem dX7_bestShare_46 : decode cX7_bestShare 46 = .ok (.invokevirtual 280, 3) := by decide +kernel
theorem dX7_bestShare_49 : decode cX7_bestShare 49 = .ok (.istore 5, 2) := by decide +kernel
theorem dX7_bestShare_51 : decode cX7_bestShare 51 = .ok (.iload 5, 2) := by decide +kernel
theorem dX7_bestShare_53 : decode cX7_bestShare 53 = .ok (.iload_n 3, 1) := by decide +kernel
theorem dX7_bestShare_54 : decode cX7_bestShare 54 = .ok (.if_icmp .le 8, 3) := by decide +kernel
theorem dX7_bestShare_57 : decode cX7_bestShare 57 = .ok (.iload 4, 2) := by decide +kernel
theorem dX7_bestShare_59 : decode cX7_bestShare 59 = .ok (.goto 4, 3) := by decide +kernel
theorem dX7_bestShare_62 : decode cX7_bestShare 62 = .ok (.iload_n 2, 1) := by decide +kernel
theorem dX7_bestShare_63 : decode cX7_bestShare 63 = .ok (.istore_n 2, 1) := by decide +kernel
theorem dX7_bestShare_64 : decode cX7_bestShare 64 = .ok (.iload 5, 2) := by decide +kernel
theorem dX7_bestShare_66 : decode cX7_bestShare 66 = .ok (.iload_n 3, 1) := by decide +kernel
theorem dX7_bestShare_67 : decode cX7_bestShare 67 = .ok (.if_icmp .le 8, 3) := by decide +kernel
theorem dX7_bestShare_70 : decode cX7_bestShare 70 = .ok (.iload 5, 2) := by decide +kernel
theorem dX7_bestShare_72 : decode cX7_bestShare 72 = .ok (.goto 4, 3) := by decide +kernel
theorem dX7_bestShare_75 : decode cX7_bestShare 75 = .ok (.iload_n 3, 1) := by decide +kernel
theorem dX7_bestShare_76 : decode cX7_bestShare 76 = .ok (.istore_n 3, 1) := by decide +kernel
theorem dX7_bestShare_77 : decode cX7_bestShare 77 = .ok (.iinc 4 2, 3) := by decide +kernel
theorem dX7_bestShare_80 : decode cX7_bestShare 80 = .ok (.goto (-46), 3) := by decide +kernel
theorem dX7_bestShare_83 : decode cX7_bestShare 83 = .ok (.iload_n 2, 1) := by decide +kernel
theorem dX7_bestShare_84 : decode cX7_bestShare 84 = .ok (.ireturn, 1) := by decide +kernel
theorem lk_RX7_118 : LkV RX7 118 RX7 yX7_remember cX7_remember 3 none 1 := ⟨⟨mw_1156, mw_1158, mw_15, mw_59, mw_1159⟩, by decide +kernel⟩
theorem lk_RX7_64 : LkV RX7 64 RX7 yX7_refuse cX7_refuse 2 (some .int) 1 := ⟨⟨mw_1086, mw_1088, mw_9, mw_59, mw_1089⟩, by decide +kernel⟩
theorem lk_RX7_68 : LkV RX7 68 RX7 yX7_tell cX7_tell 2 (some .int) 1 := ⟨⟨mw_1093, mw_1095, mw_10, mw_59, mw_1096⟩, by decide +kernel⟩
set_option maxHeartbeats 4000000 in
set_option maxRecDepth 100000 in
theorem c_mradio (l : Launch) (E : hE) (ρ : Nat → Nat → Int32) (a1 : Int32) (hM : MF ρ) : Met l yX7_radio (.code yX7_radio cX7_radio 3 (some .int) :: gw_all) (rmk 5 200) (cPre E ρ [.ref (E.2.1 + 1076), .int a1]) (cI E (fun r _ => ((iR a1 0 268435455) ∧ r = 0) ∨ (¬ (iR a1 0 268435455) ∧ r = -1))) 0 0 (hA E) := by
  refine ent (own := RX7) (by decide) rfl (Nat.le_of_ble_eq_true rfl) ?_
  intro p e s m below meth c ls B hr hlk hl hP hS
  have hx := B.1.1
  have hb := B.1.2.1
  have hown := B.1.2.2.2.1
  have hts := B.1.2.2.2.2
  have hl : lv_has ls 3 [(0, .ref (E.2.1 + 1076)), (1, .int a1)] := hl
  refine lv_aload_n hx hb dX7_radio_0 rfl (lv_at hl 0 rfl) ?_
  refine lv_iconst (v := 0) hx hb dX7_radio_1 (by decide) ?_
  refine put7 B hP hS (by decide +kernel) 0 (by decide) mw_1027 rfl rfl rfl (fs7_0 E 1076 _ _) dX7_radio_2 (fun H locs hP hS => ?_)
  rw [up_self ρ ((congrFun (hM 1076 (by decide)) 0).trans (show r0 1076 0 = 0 by decide +kernel))] at hP
  refine lv_iload_n hx hb dX7_radio_5 rfl (lv_at hl 1 rfl) ?_
  refine lv_i2l hx hb dX7_radio_6 rfl ?_
  refine lv_lconst (v := 0) hx hb dX7_radio_7 (by decide) ?_
  refine lv_ldc2 (v := 268435455) hx hb hown (hts _ mw_1112) dX7_radio_8 ?_
  refine call_i (cS (av := [.long a1.toInt64, .long 0, .long 268435455]) (rest := []) B hP hS (c_in l E ρ a1.toInt64 0 268435455 0 268435455 (by decide) (by decide)) lk_RX7_71 rfl rfl hl.1 (Nat.le_of_ble_eq_true rfl) ⟨Nat.le_of_ble_eq_true rfl, Nat.le_of_ble_eq_true rfl⟩ ⟨Nat.le_of_ble_eq_true rfl, Nat.le_of_ble_eq_true rfl⟩ dX7_radio_11) hS (fun r1 ρ2 H locs q3 hP hS => ?_)
  obtain ⟨rfl, q3⟩ := q3
  rw [lR_i] at q3
  rcases q3 with ⟨rfl, q3⟩ | ⟨rfl, q3⟩
  · skip
    refine lv_if_ne (tgt := 23) hx hb dX7_radio_14 (by decide) (fun _ => ?_) (fun c4 => absurd c4 (by decide))
    refine lv_aload_n hx hb dX7_radio_23 rfl (lv_at hl 0 rfl) ?_
    refine get7 B hP (by decide +kernel) 3 (by decide) mw_1030 rfl dX7_radio_24 ?_
    refine lv_iconst (v := 0) hx hb dX7_radio_27 (by decide) ?_
    refine aldf (n := 695) (j := 0) (v := 0) B hP (by decide +kernel) (by decide +kernel) rfl (by decide) (by decide) ((congrFun (hM 1078 (by decide)) 0).trans (show r0 1078 0 = 0 by decide +kernel)) dX7_radio_28 ?_
    refine lv_istore_n (lv' := [(2, .int 0), (0, .ref (E.2.1 + 1076)), (1, .int a1)]) hx hb dX7_radio_29 rfl hl (by decide) rfl (fun ls hl => ?_)
    refine lv_iload_n hx hb dX7_radio_30 rfl (lv_at hl 0 rfl) ?_
    refine lv_bipush (v := 6) hx hb dX7_radio_31 (by decide) ?_
    refine lv_icmp_ne (tgt := 43) hx hb dX7_radio_33 (by decide) (fun _ => ?_) (fun c5 => absurd c5 (by decide))
    refine lv_aload_n hx hb dX7_radio_43 rfl (lv_at hl 1 rfl) ?_
    refine lv_iconst (v := 0) hx hb dX7_radio_44 (by decide) ?_
    refine call_v (cVt (k := 1076) (av := [.int 0]) (rest := []) B hP hS (c_remember l E ρ 0 ((congrFun (hM 1076 (by decide)) 6).trans (show r0 1076 6 = 0 by decide +kernel))) lk_RX7_118 (hrecv (ci := 7) B hP (hk_lt (c := 7) (by decide +kernel) (by decide)) (hcc7 _ _ (by decide +kernel)) rfl) rfl rfl hl.1 (Nat.le_of_ble_eq_true rfl) ⟨Nat.le_of_ble_eq_true rfl, Nat.le_of_ble_eq_true rfl⟩ ⟨Nat.le_of_ble_eq_true rfl, Nat.le_of_ble_eq_true rfl⟩ dX7_radio_45) hS (fun ρ7 H locs q8 hP hS => ?_)
    refine lv_aload_n hx hb dX7_radio_48 rfl (lv_at hl 1 rfl) ?_
    refine get7 B hP (by decide +kernel) 3 (by decide) mw_1030 rfl dX7_radio_49 ?_
    refine lv_iconst (v := 1) hx hb dX7_radio_52 (by decide) ?_
    refine lv_iload_n hx hb dX7_radio_53 rfl (lv_at hl 0 rfl) ?_
    refine lv_iadd hx hb dX7_radio_54 ?_
    refine lv_topi (fun z9 ez9 => ?_)
    obtain rfl : z9 = 1 := ez9.trans (by decide)
    refine lv_iload_n hx hb dX7_radio_55 rfl (lv_at hl 2 rfl) ?_
    refine astn (n := 695) (j := 1) B hP hS (by decide +kernel) (by decide +kernel) rfl (by decide) (by decide) dX7_radio_56 (fun H locs hP hS => ?_)
    obtain ⟨ρ10, e11⟩ : ∃ z, z = up ρ7 1078 1 a1 := ⟨_, rfl⟩
    rw [← e11] at hP
    refine lv_aload_n hx hb dX7_radio_57 rfl (lv_at hl 1 rfl) ?_
    refine get7 B hP (by decide +kernel) 3 (by decide) mw_1030 rfl dX7_radio_58 ?_
    refine lv_iconst (v := 0) hx hb dX7_radio_61 (by decide) ?_
    refine lv_dup2_11 hx hb dX7_radio_62 rfl rfl ?_
    refine aldf (n := 695) (j := 0) (v := 0) B hP (by decide +kernel) (by decide +kernel) rfl (by decide) (by decide) (by rw [e11]; exact up_get_ne (Or.inr (by decide)) ((congrFun (q8 1078 (by decide) (by decide) (by decide)) 0).trans ((congrFun (hM 1078 (by decide)) 0).trans (show r0 1078 0 = 0 by decide +kernel)))) dX7_radio_63 ?_
    refine lv_iconst (v := 1) hx hb dX7_radio_64 (by decide) ?_
    refine lv_iadd hx hb dX7_radio_65 ?_
    refine lv_topi (fun z12 ez12 => ?_)
    obtain rfl : z12 = 1 := ez12.trans (by decide)
    refine astn (n := 695) (j := 0) B hP hS (by decide +kernel) (by decide +kernel) rfl (by decide) (by decide) dX7_radio_66 (fun H locs hP hS => ?_)
    obtain ⟨ρ13, e14⟩ : ∃ z, z = up ρ10 1078 0 1 := ⟨_, rfl⟩
    rw [← e14] at hP
    refine lv_aload_n hx hb dX7_radio_67 rfl (lv_at hl 1 rfl) ?_
    refine lv_iload_n hx hb dX7_radio_68 rfl (lv_at hl 0 rfl) ?_
    refine call_i (cVt (k := 1076) (av := [.int 0]) (rest := []) B hP hS (c_mtell l E ρ13 0) lk_RX7_68 (hrecv (ci := 7) B hP (hk_lt (c := 7) (by decide +kernel) (by decide)) (hcc7 _ _ (by decide +kernel)) rfl) rfl rfl hl.1 (Nat.le_of_ble_eq_true rfl) ⟨Nat.le_of_ble_eq_true rfl, Nat.le_of_ble_eq_true rfl⟩ ⟨Nat.le_of_ble_eq_true rfl, Nat.le_of_ble_eq_true rfl⟩ dX7_radio_69) hS (fun r15 ρ16 H locs q17 hP hS => ?_)
    obtain rfl := q17
    exact ret_i B hr hlk hP hS dX7_radio_72 (Or.inl ⟨q3, rfl⟩)
  · skip
    refine lv_if_ne (tgt := 23) hx hb dX7_radio_14 (by decide) (fun c18 => absurd c18 (by decide)) (fun _ => ?_)
    refine lv_aload_n hx hb dX7_radio_17 rfl (lv_at hl 0 rfl) ?_
    refine lv_iconst (v := (-1)) hx hb dX7_radio_18 (by decide) ?_
    refine call_i (cVt (k := 1076) (av := [.int (-1)]) (rest := []) B hP hS (c_mrefuse l E ρ (-1) ⟨1, by decide, by decide⟩) lk_RX7_64 (hrecv (ci := 7) B hP (hk_lt (c := 7) (by decide +kernel) (by decide)) (hcc7 _ _ (by decide +kernel)) rfl) rfl rfl hl.1 (Nat.le_of_ble_eq_true rfl) ⟨Nat.le_of_ble_eq_true rfl, Nat.le_of_ble_eq_true rfl⟩ ⟨Nat.le_of_ble_eq_true rfl, Nat.le_of_ble_eq_true rfl⟩ dX7_radio_19) hS (fun r19 ρ20 H locs q21 hP hS => ?_)
    obtain rfl := q21
    exact ret_i B hr hlk hP hS dX7_radio_22 (Or.inr ⟨fun z => q3 z, rfl⟩)

theorem lk_RX7_124 : LkV RX7 124 RX7 yX7_isRadio cX7_isRadio 2 (some .boolean) 1 := ⟨⟨mw_1165, mw_1167, mw_16, mw_59, mw_1168⟩, by decide +kernel⟩
set_option maxHeartbeats 4000000 in
set_option maxRecDepth 100000 in
theorem c_mnet (l : Launch) (E : hE) (ρ : Nat → Nat → Int32) (a1 a2 a3 : Int32) (hM : MF ρ) : Met l yX7_net (.code yX7_net cX7_net 6 (some .int) :: gw_all) (rmk 5 200) (cPre E ρ [.ref (E.2.1 + 1076), .int a1, .int a2, .int a3]) (cI E (fun r _ => ((iR a1 0 1 ∧ iR a3 0 65535) ∧ r = -2) ∨ (¬ (iR a1 0 1 ∧ iR a3 0 65535) ∧ r = -1))) 0 0 (hA E) := by
  refine ent (own := RX7) (by decide) rfl (Nat.le_of_ble_eq_true rfl) ?_
  intro p e s m below meth c ls B hr hlk hl hP hS
  have hx := B.1.1
  have hb := B.1.2.1
  have hown := B.1.2.2.2.1
  have hts := B.1.2.2.2.2
  have hl : lv_has ls 6 [(0, .ref (E.2.1 + 1076)), (1, .int a1), (2, .int a2), (3, .int a3)] := hl
  refine lv_aload_n hx hb dX7_net_0 rfl (lv_at hl 0 rfl) ?_
  refine lv_iconst (v := 0) hx hb dX7_net_1 (by decide) ?_
  refine put7 B hP hS (by decide +kernel) 0 (by decide) mw_1027 rfl rfl rfl (fs7_0 E 1076 _ _) dX7_net_2 (fun H locs hP hS => ?_)
  rw [up_self ρ ((congrFun (hM 1076 (by decide)) 0).trans (show r0 1076 0 = 0 by decide +kernel))] at hP
  refine lv_iload_n hx hb dX7_net_5 rfl (lv_at hl 1 rfl) ?_
  refine lv_i2l hx hb dX7_net_6 rfl ?_
  refine lv_lconst (v := 0) hx hb dX7_net_7 (by decide) ?_
  refine lv_lconst (v := 1) hx hb dX7_net_8 (by decide) ?_
  refine call_i (cS (av := [.long a1.toInt64, .long 0, .long 1]) (rest := []) B hP hS (c_in l E ρ a1.toInt64 0 1 0 1 (by decide) (by decide)) lk_RX7_71 rfl rfl hl.1 (Nat.le_of_ble_eq_true rfl) ⟨Nat.le_of_ble_eq_true rfl, Nat.le_of_ble_eq_true rfl⟩ ⟨Nat.le_of_ble_eq_true rfl, Nat.le_of_ble_eq_true rfl⟩ dX7_net_9) hS (fun r1 ρ2 H locs q3 hP hS => ?_)
  obtain ⟨rfl, q3⟩ := q3
  rw [lR_i] at q3
  rcases q3 with ⟨rfl, q3⟩ | ⟨rfl, q3⟩
  · skip
    refine lv_if_eq (tgt := 27) hx hb dX7_net_12 (by decide) (fun c4 => absurd c4 (by decide)) (fun _ => ?_)
    refine lv_iload_n hx hb dX7_net_15 rfl (lv_at hl 3 rfl) ?_
    refine lv_i2l hx hb dX7_net_16 rfl ?_
    refine lv_lconst (v := 0) hx hb dX7_net_17 (by decide) ?_
    refine lv_ldc2 (v := 65535) hx hb hown (hts _ mw_1164) dX7_net_18 ?_
    refine call_i (cS (av := [.long a3.toInt64, .long 0, .long 65535]) (rest := []) B hP hS (c_in l E ρ a3.toInt64 0 65535 0 65535 (by decide) (by decide)) lk_RX7_71 rfl rfl hl.1 (Nat.le_of_ble_eq_true rfl) ⟨Nat.le_of_ble_eq_true rfl, Nat.le_of_ble_eq_true rfl⟩ ⟨Nat.le_of_ble_eq_true rfl, Nat.le_of_ble_eq_true rfl⟩ dX7_net_21) hS (fun r5 ρ6 H locs q7 hP hS => ?_)
    obtain ⟨rfl, q7⟩ := q7
    rw [lR_i] at q7
    rcases q7 with ⟨rfl, q7⟩ | ⟨rfl, q7⟩
    · skip
      refine lv_if_ne (tgt := 33) hx hb dX7_net_24 (by decide) (fun _ => ?_) (fun c8 => absurd c8 (by decide))
      refine lv_aload_n hx hb dX7_net_33 rfl (lv_at hl 0 rfl) ?_
      refine lv_iload_n hx hb dX7_net_34 rfl (lv_at hl 2 rfl) ?_
      refine call_i (cVt (k := 1076) (av := [.int a2]) (rest := []) B hP hS (c_isRadio l E ρ a2 ((congrFun (hM 1078 (by decide)) 0).trans (show r0 1078 0 = 0 by decide +kernel))) lk_RX7_124 (hrecv (ci := 7) B hP (hk_lt (c := 7) (by decide +kernel) (by decide)) (hcc7 _ _ (by decide +kernel)) rfl) rfl rfl hl.1 (Nat.le_of_ble_eq_true rfl) ⟨Nat.le_of_ble_eq_true rfl, Nat.le_of_ble_eq_true rfl⟩ ⟨Nat.le_of_ble_eq_true rfl, Nat.le_of_ble_eq_true rfl⟩ dX7_net_35) hS (fun r9 ρ10 H locs q11 hP hS => ?_)
      obtain ⟨rfl, rfl⟩ := q11
      refine lv_if_ne (tgt := 48) hx hb dX7_net_38 (by decide) (fun c12 => absurd c12 (by decide)) (fun _ => ?_)
      refine lv_aload_n hx hb dX7_net_41 rfl (lv_at hl 0 rfl) ?_
      refine lv_bipush (v := (-2)) hx hb dX7_net_42 (by decide) ?_
      refine call_i (cVt (k := 1076) (av := [.int (-2)]) (rest := []) B hP hS (c_mrefuse l E ρ (-2) ⟨2, by decide, by decide⟩) lk_RX7_64 (hrecv (ci := 7) B hP (hk_lt (c := 7) (by decide +kernel) (by decide)) (hcc7 _ _ (by decide +kernel)) rfl) rfl rfl hl.1 (Nat.le_of_ble_eq_true rfl) ⟨Nat.le_of_ble_eq_true rfl, Nat.le_of_ble_eq_true rfl⟩ ⟨Nat.le_of_ble_eq_true rfl, Nat.le_of_ble_eq_true rfl⟩ dX7_net_44) hS (fun r13 ρ14 H locs q15 hP hS => ?_)
      obtain rfl := q15
      exact ret_i B hr hlk hP hS dX7_net_47 (Or.inl ⟨⟨q3, q7⟩, rfl⟩)
    · skip
      refine lv_if_ne (tgt := 33) hx hb dX7_net_24 (by decide) (fun c16 => absurd c16 (by decide)) (fun _ => ?_)
      refine lv_aload_n hx hb dX7_net_27 rfl (lv_at hl 0 rfl) ?_
      refine lv_iconst (v := (-1)) hx hb dX7_net_28 (by decide) ?_
      refine call_i (cVt (k := 1076) (av := [.int (-1)]) (rest := []) B hP hS (c_mrefuse l E ρ (-1) ⟨1, by decide, by decide⟩) lk_RX7_64 (hrecv (ci := 7) B hP (hk_lt (c := 7) (by decide +kernel) (by decide)) (hcc7 _ _ (by decide +kernel)) rfl) rfl rfl hl.1 (Nat.le_of_ble_eq_true rfl) ⟨Nat.le_of_ble_eq_true rfl, Nat.le_of_ble_eq_true rfl⟩ ⟨Nat.le_of_ble_eq_true rfl, Nat.le_of_ble_eq_true rfl⟩ dX7_net_29) hS (fun r17 ρ18 H locs q19 hP hS => ?_)
      obtain rfl := q19
      exact ret_i B hr hlk hP hS dX7_net_32 (Or.inr ⟨fun z => q7 z.2, rfl⟩)
  · skip
    refine lv_if_eq (tgt := 27) hx hb dX7_net_12 (by decide) (fun _ => ?_) (fun c20 => absurd c20 (by decide))
    refine lv_aload_n hx hb dX7_net_27 rfl (lv_at hl 0 rfl) ?_
    refine lv_iconst (v := (-1)) hx hb dX7_net_28 (by decide) ?_
    refine call_i (cVt (k := 1076) (av := [.int (-1)]) (rest := []) B hP hS (c_mrefuse l E ρ (-1) ⟨1, by decide, by decide⟩) lk_RX7_64 (hrecv (ci := 7) B hP (hk_lt (c := 7) (by decide +kernel) (by decide)) (hcc7 _ _ (by decide +kernel)) rfl) rfl rfl hl.1 (Nat.le_of_ble_eq_true rfl) ⟨Nat.le_of_ble_eq_true rfl, Nat.le_of_ble_eq_true rfl⟩ ⟨Nat.le_of_ble_eq_true rfl, Nat.le_of_ble_eq_true rfl⟩ dX7_net_29) hS (fun r21 ρ22 H locs q23 hP hS => ?_)
    obtain rfl := q23
    exact ret_i B hr hlk hP hS dX7_net_32 (Or.inr ⟨fun z => q3 z.1, rfl⟩)

set_option maxHeartbeats 4000000 in
set_option maxRecDepth 100000 in
theorem c_mjoin (l : Launch) (E : hE) (ρ : Nat → Nat → Int32) (a1 a2 : Int32) (hM : MF ρ) : Met l yX7_join (.code yX7_join cX7_join 7 (some .int) :: gw_all) (rmk 5 200) (cPre E ρ [.ref (E.2.1 + 1076), .int a1, .int a2]) (cI E (fun r _ => r = (-2))) 0 0 (hA E) := by
  refine ent (own := RX7) (by decide) rfl (Nat.le_of_ble_eq_true rfl) ?_
  intro p e s m below meth c ls B hr hlk hl hP hS
  have hx := B.1.1
  have hb := B.1.2.1
  have hown := B.1.2.2.2.1
  have hts := B.1.2.2.2.2
  have hl : lv_has ls 7 [(0, .ref (E.2.1 + 1076)), (1, .int a1), (2, .int a2)] := hl
  refine lv_aload_n hx hb dX7_join_0 rfl (lv_at hl 0 rfl) ?_
  refine lv_iconst (v := 0) hx hb dX7_join_1 (by decide) ?_
  refine put7 B hP hS (by decide +kernel) 0 (by decide) mw_1027 rfl rfl rfl (fs7_0 E 1076 _ _) dX7_join_2 (fun H locs hP hS => ?_)
  rw [up_self ρ ((congrFun (hM 1076 (by decide)) 0).trans (show r0 1076 0 = 0 by decide +kernel))] at hP
  refine lv_aload_n hx hb dX7_join_5 rfl (lv_at hl 0 rfl) ?_
  refine lv_iload_n hx hb dX7_join_6 rfl (lv_at hl 1 rfl) ?_
  refine call_i (cVt (k := 1076) (av := [.int a1]) (rest := []) B hP hS (c_isNet l E ρ a1 ⟨((congrFun (hM 1078 (by decide)) 42).trans (show r0 1078 42 = (-1) by decide +kernel)), ((congrFun (hM 1078 (by decide)) 368).trans (show r0 1078 368 = (-1) by decide +kernel))⟩) lk_RX7_78 (hrecv (ci := 7) B hP (hk_lt (c := 7) (by decide +kernel) (by decide)) (hcc7 _ _ (by decide +kernel)) rfl) rfl rfl hl.1 (Nat.le_of_ble_eq_true rfl) ⟨Nat.le_of_ble_eq_true rfl, Nat.le_of_ble_eq_true rfl⟩ ⟨Nat.le_of_ble_eq_true rfl, Nat.le_of_ble_eq_true rfl⟩ dX7_join_7) hS (fun r1 ρ2 H locs q3 hP hS => ?_)
  obtain ⟨rfl, rfl⟩ := q3
  refine lv_if_eq (tgt := 21) hx hb dX7_join_10 (by decide) (fun _ => ?_) (fun c4 => absurd c4 (by decide))
  refine lv_aload_n hx hb dX7_join_21 rfl (lv_at hl 0 rfl) ?_
  refine lv_bipush (v := (-2)) hx hb dX7_join_22 (by decide) ?_
  refine call_i (cVt (k := 1076) (av := [.int (-2)]) (rest := []) B hP hS (c_mrefuse l E ρ (-2) ⟨2, by decide, by decide⟩) lk_RX7_64 (hrecv (ci := 7) B hP (hk_lt (c := 7) (by decide +kernel) (by decide)) (hcc7 _ _ (by decide +kernel)) rfl) rfl rfl hl.1 (Nat.le_of_ble_eq_true rfl) ⟨Nat.le_of_ble_eq_true rfl, Nat.le_of_ble_eq_true rfl⟩ ⟨Nat.le_of_ble_eq_true rfl, Nat.le_of_ble_eq_true rfl⟩ dX7_join_24) hS (fun r5 ρ6 H locs q7 hP hS => ?_)
  obtain rfl := q7
  exact ret_i B hr hlk hP hS dX7_join_27 (rfl)

theorem lk_RX7_106 : LkV RX7 106 RX7 yX7_isLink cX7_isLink 3 (some .boolean) 2 := ⟨⟨mw_1130, mw_1132, mw_12, mw_59, mw_1133⟩, by decide +kernel⟩
set_option maxHeartbeats 4000000 in
set_option maxRecDepth 100000 in
theorem c_mleave (l : Launch) (E : hE) (ρ : Nat → Nat → Int32) (a1 a2 : Int32) (hM : MF ρ) : Met l yX7_leave (.code yX7_leave cX7_leave 5 (some .int) :: gw_all) (rmk 5 200) (cPre E ρ [.ref (E.2.1 + 1076), .int a1, .int a2]) (cI E (fun r _ => r = (-2))) 0 0 (hA E) := by
  refine ent (own := RX7) (by decide) rfl (Nat.le_of_ble_eq_true rfl) ?_
  intro p e s m below meth c ls B hr hlk hl hP hS
  have hx := B.1.1
  have hb := B.1.2.1
  have hown := B.1.2.2.2.1
  have hts := B.1.2.2.2.2
  have hl : lv_has ls 5 [(0, .ref (E.2.1 + 1076)), (1, .int a1), (2, .int a2)] := hl
  refine lv_aload_n hx hb dX7_leave_0 rfl (lv_at hl 0 rfl) ?_
  refine lv_iconst (v := 0) hx hb dX7_leave_1 (by decide) ?_
  refine put7 B hP hS (by decide +kernel) 0 (by decide) mw_1027 rfl rfl rfl (fs7_0 E 1076 _ _) dX7_leave_2 (fun H locs hP hS => ?_)
  rw [up_self ρ ((congrFun (hM 1076 (by decide)) 0).trans (show r0 1076 0 = 0 by decide +kernel))] at hP
  refine lv_aload_n hx hb dX7_leave_5 rfl (lv_at hl 0 rfl) ?_
  refine lv_iload_n hx hb dX7_leave_6 rfl (lv_at hl 1 rfl) ?_
  refine lv_iload_n hx hb dX7_leave_7 rfl (lv_at hl 2 rfl) ?_
  refine call_i (cVt (k := 1076) (av := [.int a1, .int a2]) (rest := []) B hP hS (c_isLink l E ρ a1 a2 ⟨((congrFun (hM 1078 (by decide)) 42).trans (show r0 1078 42 = (-1) by decide +kernel)), ((congrFun (hM 1078 (by decide)) 368).trans (show r0 1078 368 = (-1) by decide +kernel))⟩) lk_RX7_106 (hrecv (ci := 7) B hP (hk_lt (c := 7) (by decide +kernel) (by decide)) (hcc7 _ _ (by decide +kernel)) rfl) rfl rfl hl.1 (Nat.le_of_ble_eq_true rfl) ⟨Nat.le_of_ble_eq_true rfl, Nat.le_of_ble_eq_true rfl⟩ ⟨Nat.le_of_ble_eq_true rfl, Nat.le_of_ble_eq_true rfl⟩ dX7_leave_8) hS (fun r1 ρ2 H locs q3 hP hS => ?_)
  obtain ⟨rfl, rfl⟩ := q3
  refine lv_if_ne (tgt := 21) hx hb dX7_leave_11 (by decide) (fun c4 => absurd c4 (by decide)) (fun _ => ?_)
  refine lv_aload_n hx hb dX7_leave_14 rfl (lv_at hl 0 rfl) ?_
  refine lv_bipush (v := (-2)) hx hb dX7_leave_15 (by decide) ?_
  refine call_i (cVt (k := 1076) (av := [.int (-2)]) (rest := []) B hP hS (c_mrefuse l E ρ (-2) ⟨2, by decide, by decide⟩) lk_RX7_64 (hrecv (ci := 7) B hP (hk_lt (c := 7) (by decide +kernel) (by decide)) (hcc7 _ _ (by decide +kernel)) rfl) rfl rfl hl.1 (Nat.le_of_ble_eq_true rfl) ⟨Nat.le_of_ble_eq_true rfl, Nat.le_of_ble_eq_true rfl⟩ ⟨Nat.le_of_ble_eq_true rfl, Nat.le_of_ble_eq_true rfl⟩ dX7_leave_17) hS (fun r5 ρ6 H locs q7 hP hS => ?_)
  obtain rfl := q7
  exact ret_i B hr hlk hP hS dX7_leave_20 (rfl)

set_option maxHeartbeats 4000000 in
set_option maxRecDepth 100000 in
theorem c_mnoise (l : Launch) (E : hE) (ρ : Nat → Nat → Int32) (a1 a2 : Int32) (hM : MF ρ) : Met l yX7_noise (.code yX7_noise cX7_noise 4 (some .int) :: gw_all) (rmk 5 200) (cPre E ρ [.ref (E.2.1 + 1076), .int a1, .int a2]) (cI E (fun r _ => ((iR a1 0 22 ∧ iR a2 0 16) ∧ r = 0) ∨ (¬ (iR a1 0 22 ∧ iR a2 0 16) ∧ r = -1))) 0 0 (hA E) := by
  refine ent (own := RX7) (by decide) rfl (Nat.le_of_ble_eq_true rfl) ?_
  intro p e s m below meth c ls B hr hlk hl hP hS
  have hx := B.1.1
  have hb := B.1.2.1
  have hown := B.1.2.2.2.1
  have hts := B.1.2.2.2.2
  have hl : lv_has ls 4 [(0, .ref (E.2.1 + 1076)), (1, .int a1), (2, .int a2)] := hl
  refine lv_aload_n hx hb dX7_noise_0 rfl (lv_at hl 0 rfl) ?_
  refine lv_iconst (v := 0) hx hb dX7_noise_1 (by decide) ?_
  refine put7 B hP hS (by decide +kernel) 0 (by decide) mw_1027 rfl rfl rfl (fs7_0 E 1076 _ _) dX7_noise_2 (fun H locs hP hS => ?_)
  rw [up_self ρ ((congrFun (hM 1076 (by decide)) 0).trans (show r0 1076 0 = 0 by decide +kernel))] at hP
  refine lv_iload_n hx hb dX7_noise_5 rfl (lv_at hl 1 rfl) ?_
  refine lv_i2l hx hb dX7_noise_6 rfl ?_
  refine lv_lconst (v := 0) hx hb dX7_noise_7 (by decide) ?_
  refine lv_ldc2 (v := 22) hx hb hown (hts _ mw_1186) dX7_noise_8 ?_
  refine call_i (cS (av := [.long a1.toInt64, .long 0, .long 22]) (rest := []) B hP hS (c_in l E ρ a1.toInt64 0 22 0 22 (by decide) (by decide)) lk_RX7_71 rfl rfl hl.1 (Nat.le_of_ble_eq_true rfl) ⟨Nat.le_of_ble_eq_true rfl, Nat.le_of_ble_eq_true rfl⟩ ⟨Nat.le_of_ble_eq_true rfl, Nat.le_of_ble_eq_true rfl⟩ dX7_noise_11) hS (fun r1 ρ2 H locs q3 hP hS => ?_)
  obtain ⟨rfl, q3⟩ := q3
  rw [lR_i] at q3
  rcases q3 with ⟨rfl, q3⟩ | ⟨rfl, q3⟩
  · skip
    obtain ⟨j4, hj4, ej4⟩ := iR_ix (n := 23) q3 (by decide) (by decide)
    refine lv_if_eq (tgt := 29) hx hb dX7_noise_14 (by decide) (fun c5 => absurd c5 (by decide)) (fun _ => ?_)
    refine lv_iload_n hx hb dX7_noise_17 rfl (lv_at hl 2 rfl) ?_
    refine lv_i2l hx hb dX7_noise_18 rfl ?_
    refine lv_lconst (v := 0) hx hb dX7_noise_19 (by decide) ?_
    refine lv_ldc2 (v := 16) hx hb hown (hts _ mw_1187) dX7_noise_20 ?_
    refine call_i (cS (av := [.long a2.toInt64, .long 0, .long 16]) (rest := []) B hP hS (c_in l E ρ a2.toInt64 0 16 0 16 (by decide) (by decide)) lk_RX7_71 rfl rfl hl.1 (Nat.le_of_ble_eq_true rfl) ⟨Nat.le_of_ble_eq_true rfl, Nat.le_of_ble_eq_true rfl⟩ ⟨Nat.le_of_ble_eq_true rfl, Nat.le_of_ble_eq_true rfl⟩ dX7_noise_23) hS (fun r6 ρ7 H locs q8 hP hS => ?_)
    obtain ⟨rfl, q8⟩ := q8
    rw [lR_i] at q8
    rcases q8 with ⟨rfl, q8⟩ | ⟨rfl, q8⟩
    · skip
      refine lv_if_ne (tgt := 35) hx hb dX7_noise_26 (by decide) (fun _ => ?_) (fun c9 => absurd c9 (by decide))
      refine lv_aload_n hx hb dX7_noise_35 rfl (lv_at hl 0 rfl) ?_
      refine lv_iconst (v := 4) hx hb dX7_noise_36 (by decide) ?_
      refine call_v (cVt (k := 1076) (av := [.int 4]) (rest := []) B hP hS (c_remember l E ρ 4 ((congrFun (hM 1076 (by decide)) 6).trans (show r0 1076 6 = 0 by decide +kernel))) lk_RX7_118 (hrecv (ci := 7) B hP (hk_lt (c := 7) (by decide +kernel) (by decide)) (hcc7 _ _ (by decide +kernel)) rfl) rfl rfl hl.1 (Nat.le_of_ble_eq_true rfl) ⟨Nat.le_of_ble_eq_true rfl, Nat.le_of_ble_eq_true rfl⟩ ⟨Nat.le_of_ble_eq_true rfl, Nat.le_of_ble_eq_true rfl⟩ dX7_noise_37) hS (fun ρ11 H locs q12 hP hS => ?_)
      refine lv_aload_n hx hb dX7_noise_40 rfl (lv_at hl 0 rfl) ?_
      refine get7 B hP (by decide +kernel) 3 (by decide) mw_1030 rfl dX7_noise_41 ?_
      refine lv_bipush (v := 19) hx hb dX7_noise_44 (by decide) ?_
      refine lv_iload_n hx hb dX7_noise_46 rfl (lv_at hl 1 rfl) ?_
      refine lv_iadd hx hb dX7_noise_47 ?_
      refine aldf (n := 695) (j := (19 + j4)) (v := 0) B hP (by decide +kernel) (by decide +kernel) (by rw [ej4]; exact nI_add 19 j4) (by omega) (by decide) ((congrFun (q12 1078 (by decide) (by decide) (by decide)) (19 + j4)).trans ((congrFun (hM 1078 (by decide)) (19 + j4)).trans (r0_row (by omega) (by omega)))) dX7_noise_48 ?_
      refine lv_istore_n (lv' := [(3, .int 0), (0, .ref (E.2.1 + 1076)), (1, .int a1), (2, .int a2)]) hx hb dX7_noise_49 rfl hl (by decide) rfl (fun ls hl => ?_)
      refine lv_aload_n hx hb dX7_noise_50 rfl (lv_at hl 1 rfl) ?_
      refine get7 B hP (by decide +kernel) 3 (by decide) mw_1030 rfl dX7_noise_51 ?_
      refine lv_bipush (v := 19) hx hb dX7_noise_54 (by decide) ?_
      refine lv_iload_n hx hb dX7_noise_56 rfl (lv_at hl 2 rfl) ?_
      refine lv_iadd hx hb dX7_noise_57 ?_
      refine lv_iload_n hx hb dX7_noise_58 rfl (lv_at hl 3 rfl) ?_
      refine astn (n := 695) (j := (19 + j4)) B hP hS (by decide +kernel) (by decide +kernel) (by rw [ej4]; exact nI_add 19 j4) (by omega) (by decide) dX7_noise_59 (fun H locs hP hS => ?_)
      obtain ⟨ρ13, e14⟩ : ∃ z, z = up ρ11 1078 (19 + j4) a2 := ⟨_, rfl⟩
      rw [← e14] at hP
      refine lv_aload_n hx hb dX7_noise_60 rfl (lv_at hl 1 rfl) ?_
      refine lv_iload_n hx hb dX7_noise_61 rfl (lv_at hl 0 rfl) ?_
      refine call_i (cVt (k := 1076) (av := [.int 0]) (rest := []) B hP hS (c_mtell l E ρ13 0) lk_RX7_68 (hrecv (ci := 7) B hP (hk_lt (c := 7) (by decide +kernel) (by decide)) (hcc7 _ _ (by decide +kernel)) rfl) rfl rfl hl.1 (Nat.le_of_ble_eq_true rfl) ⟨Nat.le_of_ble_eq_true rfl, Nat.le_of_ble_eq_true rfl⟩ ⟨Nat.le_of_ble_eq_true rfl, Nat.le_of_ble_eq_true rfl⟩ dX7_noise_62) hS (fun r15 ρ16 H locs q17 hP hS => ?_)
      obtain rfl := q17
      exact ret_i B hr hlk hP hS dX7_noise_65 (Or.inl ⟨⟨q3, q8⟩, rfl⟩)
    · skip
      refine lv_if_ne (tgt := 35) hx hb dX7_noise_26 (by decide) (fun c18 => absurd c18 (by decide)) (fun _ => ?_)
      refine lv_aload_n hx hb dX7_noise_29 rfl (lv_at hl 0 rfl) ?_
      refine lv_iconst (v := (-1)) hx hb dX7_noise_30 (by decide) ?_
      refine call_i (cVt (k := 1076) (av := [.int (-1)]) (rest := []) B hP hS (c_mrefuse l E ρ (-1) ⟨1, by decide, by decide⟩) lk_RX7_64 (hrecv (ci := 7) B hP (hk_lt (c := 7) (by decide +kernel) (by decide)) (hcc7 _ _ (by decide +kernel)) rfl) rfl rfl hl.1 (Nat.le_of_ble_eq_true rfl) ⟨Nat.le_of_ble_eq_true rfl, Nat.le_of_ble_eq_true rfl⟩ ⟨Nat.le_of_ble_eq_true rfl, Nat.le_of_ble_eq_true rfl⟩ dX7_noise_31) hS (fun r19 ρ20 H locs q21 hP hS => ?_)
      obtain rfl := q21
      exact ret_i B hr hlk hP hS dX7_noise_34 (Or.inr ⟨fun z => q8 z.2, rfl⟩)
  · skip
    refine lv_if_eq (tgt := 29) hx hb dX7_noise_14 (by decide) (fun _ => ?_) (fun c22 => absurd c22 (by decide))
    refine lv_aload_n hx hb dX7_noise_29 rfl (lv_at hl 0 rfl) ?_
    refine lv_iconst (v := (-1)) hx hb dX7_noise_30 (by decide) ?_
    refine call_i (cVt (k := 1076) (av := [.int (-1)]) (rest := []) B hP hS (c_mrefuse l E ρ (-1) ⟨1, by decide, by decide⟩) lk_RX7_64 (hrecv (ci := 7) B hP (hk_lt (c := 7) (by decide +kernel) (by decide)) (hcc7 _ _ (by decide +kernel)) rfl) rfl rfl hl.1 (Nat.le_of_ble_eq_true rfl) ⟨Nat.le_of_ble_eq_true rfl, Nat.le_of_ble_eq_true rfl⟩ ⟨Nat.le_of_ble_eq_true rfl, Nat.le_of_ble_eq_true rfl⟩ dX7_noise_31) hS (fun r23 ρ24 H locs q25 hP hS => ?_)
    obtain rfl := q25
    exact ret_i B hr hlk hP hS dX7_noise_34 (Or.inr ⟨fun z => q3 z.1, rfl⟩)

theorem lk_RX7_138 : LkS RX7 138 yX7_isShare cX7_isShare 1 (some .boolean) 1 := ⟨⟨mw_1194, mw_1195, mw_59, mw_1196⟩, by decide +kernel⟩
set_option maxHeartbeats 4000000 in
set_option maxRecDepth 100000 in
theorem c_mterms (l : Launch) (E : hE) (ρ : Nat → Nat → Int32) (a1 a2 : Int32) (hM : MF ρ) : Met l yX7_terms (.code yX7_terms cX7_terms 4 (some .int) :: gw_all) (rmk 5 200) (cPre E ρ [.ref (E.2.1 + 1076), .int a1, .int a2]) (cI E (fun r _ => (tm a1 a2 ∧ tmv a1 r) ∨ (¬ tm a1 a2 ∧ r = -1))) 0 0 (hA E) := by
  refine ent (own := RX7) (by decide) rfl (Nat.le_of_ble_eq_true rfl) ?_
  intro p e s m below meth c ls B hr hlk hl hP hS
  have hx := B.1.1
  have hb := B.1.2.1
  have hown := B.1.2.2.2.1
  have hts := B.1.2.2.2.2
  have hl : lv_has ls 4 [(0, .ref (E.2.1 + 1076)), (1, .int a1), (2, .int a2)] := hl
  refine lv_aload_n hx hb dX7_terms_0 rfl (lv_at hl 0 rfl) ?_
  refine lv_iconst (v := 0) hx hb dX7_terms_1 (by decide) ?_
  refine put7 B hP hS (by decide +kernel) 0 (by decide) mw_1027 rfl rfl rfl (fs7_0 E 1076 _ _) dX7_terms_2 (fun H locs hP hS => ?_)
  rw [up_self ρ ((congrFun (hM 1076 (by decide)) 0).trans (show r0 1076 0 = 0 by decide +kernel))] at hP
  refine lv_iload_n hx hb dX7_terms_5 rfl (lv_at hl 1 rfl) ?_
  refine lv_i2l hx hb dX7_terms_6 rfl ?_
  refine lv_lconst (v := 0) hx hb dX7_terms_7 (by decide) ?_
  refine lv_ldc2 (v := 2) hx hb hown (hts _ mw_1192) dX7_terms_8 ?_
  refine call_i (cS (av := [.long a1.toInt64, .long 0, .long 2]) (rest := []) B hP hS (c_in l E ρ a1.toInt64 0 2 0 2 (by decide) (by decide)) lk_RX7_71 rfl rfl hl.1 (Nat.le_of_ble_eq_true rfl) ⟨Nat.le_of_ble_eq_true rfl, Nat.le_of_ble_eq_true rfl⟩ ⟨Nat.le_of_ble_eq_true rfl, Nat.le_of_ble_eq_true rfl⟩ dX7_terms_11) hS (fun r1 ρ2 H locs q3 hP hS => ?_)
  obtain ⟨rfl, q3⟩ := q3
  rw [lR_i] at q3
  rcases q3 with ⟨rfl, q3⟩ | ⟨rfl, q3⟩
  · skip
    refine lv_if_eq (tgt := 63) hx hb dX7_terms_14 (by decide) (fun c4 => absurd c4 (by decide)) (fun _ => ?_)
    refine lv_iload_n hx hb dX7_terms_17 rfl (lv_at hl 1 rfl) ?_
    refine lv_if_ne (tgt := 36) hx hb dX7_terms_18 (by decide) (fun c5 => ?_) (fun c5 => ?_)
    · skip
      refine lv_iload_n hx hb dX7_terms_36 rfl (lv_at hl 1 rfl) ?_
      refine lv_iconst (v := 1) hx hb dX7_terms_37 (by decide) ?_
      refine lv_icmp_ne (tgt := 51) hx hb dX7_terms_38 (by decide) (fun c6 => ?_) (fun c6 => ?_)
      · skip
        refine lv_iload_n hx hb dX7_terms_51 rfl (lv_at hl 2 rfl) ?_
        refine lv_i2l hx hb dX7_terms_52 rfl ?_
        refine lv_lconst (v := 1) hx hb dX7_terms_53 (by decide) ?_
        refine lv_ldc2 (v := 4) hx hb hown (hts _ mw_1198) dX7_terms_54 ?_
        refine call_i (cS (av := [.long a2.toInt64, .long 1, .long 4]) (rest := []) B hP hS (c_in l E ρ a2.toInt64 1 4 1 4 (by decide) (by decide)) lk_RX7_71 rfl rfl hl.1 (Nat.le_of_ble_eq_true rfl) ⟨Nat.le_of_ble_eq_true rfl, Nat.le_of_ble_eq_true rfl⟩ ⟨Nat.le_of_ble_eq_true rfl, Nat.le_of_ble_eq_true rfl⟩ dX7_terms_57) hS (fun r7 ρ8 H locs q9 hP hS => ?_)
        obtain ⟨rfl, q9⟩ := q9
        rw [lR_i] at q9
        rcases q9 with ⟨rfl, q9⟩ | ⟨rfl, q9⟩
        · skip
          refine lv_if_ne (tgt := 69) hx hb dX7_terms_60 (by decide) (fun _ => ?_) (fun c10 => absurd c10 (by decide))
          refine lv_aload_n hx hb dX7_terms_69 rfl (lv_at hl 0 rfl) ?_
          refine lv_iconst (v := 5) hx hb dX7_terms_70 (by decide) ?_
          refine call_v (cVt (k := 1076) (av := [.int 5]) (rest := []) B hP hS (c_remember l E ρ 5 ((congrFun (hM 1076 (by decide)) 6).trans (show r0 1076 6 = 0 by decide +kernel))) lk_RX7_118 (hrecv (ci := 7) B hP (hk_lt (c := 7) (by decide +kernel) (by decide)) (hcc7 _ _ (by decide +kernel)) rfl) rfl rfl hl.1 (Nat.le_of_ble_eq_true rfl) ⟨Nat.le_of_ble_eq_true rfl, Nat.le_of_ble_eq_true rfl⟩ ⟨Nat.le_of_ble_eq_true rfl, Nat.le_of_ble_eq_true rfl⟩ dX7_terms_71) hS (fun ρ12 H locs q13 hP hS => ?_)
          refine lv_aload_n hx hb dX7_terms_74 rfl (lv_at hl 0 rfl) ?_
          refine get7 B hP (by decide +kernel) 3 (by decide) mw_1030 rfl dX7_terms_75 ?_
          refine lv_bipush (v := 8) hx hb dX7_terms_78 (by decide) ?_
          refine lv_iload_n hx hb dX7_terms_80 rfl (lv_at hl 1 rfl) ?_
          refine lv_iadd hx hb dX7_terms_81 ?_
          refine aldf (n := 695) (j := 10) (v := 2) B hP (by decide +kernel) (by decide +kernel) (by rw [w_eq (n := 2) (w_two q3 c5 c6) (by decide)]; decide) (by decide) (by decide) ((congrFun (q13 1078 (by decide) (by decide) (by decide)) 10).trans ((congrFun (hM 1078 (by decide)) 10).trans (show r0 1078 10 = 2 by decide +kernel))) dX7_terms_82 ?_
          refine lv_istore_n (lv' := [(3, .int 2), (0, .ref (E.2.1 + 1076)), (1, .int a1), (2, .int a2)]) hx hb dX7_terms_83 rfl hl (by decide) rfl (fun ls hl => ?_)
          refine lv_aload_n hx hb dX7_terms_84 rfl (lv_at hl 1 rfl) ?_
          refine get7 B hP (by decide +kernel) 3 (by decide) mw_1030 rfl dX7_terms_85 ?_
          refine lv_bipush (v := 8) hx hb dX7_terms_88 (by decide) ?_
          refine lv_iload_n hx hb dX7_terms_90 rfl (lv_at hl 2 rfl) ?_
          refine lv_iadd hx hb dX7_terms_91 ?_
          refine lv_iload_n hx hb dX7_terms_92 rfl (lv_at hl 3 rfl) ?_
          refine astn (n := 695) (j := 10) B hP hS (by decide +kernel) (by decide +kernel) (by rw [w_eq (n := 2) (w_two q3 c5 c6) (by decide)]; decide) (by decide) (by decide) dX7_terms_93 (fun H locs hP hS => ?_)
          obtain ⟨ρ14, e15⟩ : ∃ z, z = up ρ12 1078 10 a2 := ⟨_, rfl⟩
          rw [← e15] at hP
          refine lv_aload_n hx hb dX7_terms_94 rfl (lv_at hl 1 rfl) ?_
          refine lv_iload_n hx hb dX7_terms_95 rfl (lv_at hl 0 rfl) ?_
          refine call_i (cVt (k := 1076) (av := [.int 2]) (rest := []) B hP hS (c_mtell l E ρ14 2) lk_RX7_68 (hrecv (ci := 7) B hP (hk_lt (c := 7) (by decide +kernel) (by decide)) (hcc7 _ _ (by decide +kernel)) rfl) rfl rfl hl.1 (Nat.le_of_ble_eq_true rfl) ⟨Nat.le_of_ble_eq_true rfl, Nat.le_of_ble_eq_true rfl⟩ ⟨Nat.le_of_ble_eq_true rfl, Nat.le_of_ble_eq_true rfl⟩ dX7_terms_96) hS (fun r16 ρ17 H locs q18 hP hS => ?_)
          obtain rfl := q18
          exact ret_i B hr hlk hP hS dX7_terms_99 (Or.inl ⟨tm_2 (w_two q3 c5 c6) q9, Or.inr (Or.inr ⟨w_two q3 c5 c6, rfl⟩)⟩)
        · skip
          refine lv_if_ne (tgt := 69) hx hb dX7_terms_60 (by decide) (fun c19 => absurd c19 (by decide)) (fun _ => ?_)
          refine lv_aload_n hx hb dX7_terms_63 rfl (lv_at hl 0 rfl) ?_
          refine lv_iconst (v := (-1)) hx hb dX7_terms_64 (by decide) ?_
          refine call_i (cVt (k := 1076) (av := [.int (-1)]) (rest := []) B hP hS (c_mrefuse l E ρ (-1) ⟨1, by decide, by decide⟩) lk_RX7_64 (hrecv (ci := 7) B hP (hk_lt (c := 7) (by decide +kernel) (by decide)) (hcc7 _ _ (by decide +kernel)) rfl) rfl rfl hl.1 (Nat.le_of_ble_eq_true rfl) ⟨Nat.le_of_ble_eq_true rfl, Nat.le_of_ble_eq_true rfl⟩ ⟨Nat.le_of_ble_eq_true rfl, Nat.le_of_ble_eq_true rfl⟩ dX7_terms_65) hS (fun r20 ρ21 H locs q22 hP hS => ?_)
          obtain rfl := q22
          exact ret_i B hr hlk hP hS dX7_terms_68 (Or.inr ⟨tm_n2 (w_two q3 c5 c6) q9, rfl⟩)
      · skip
        refine lv_iload_n hx hb dX7_terms_41 rfl (lv_at hl 2 rfl) ?_
        refine call_i (cS (av := [.int a2]) (rest := []) B hP hS (c_isShare l E ρ a2) lk_RX7_138 rfl rfl hl.1 (Nat.le_of_ble_eq_true rfl) ⟨Nat.le_of_ble_eq_true rfl, Nat.le_of_ble_eq_true rfl⟩ ⟨Nat.le_of_ble_eq_true rfl, Nat.le_of_ble_eq_true rfl⟩ dX7_terms_42) hS (fun r23 ρ24 H locs q25 hP hS => ?_)
        obtain ⟨rfl, q25⟩ := q25
        rcases q25 with ⟨rfl, q25⟩ | ⟨rfl, q25⟩
        · skip
          refine lv_if_ne (tgt := 69) hx hb dX7_terms_45 (by decide) (fun _ => ?_) (fun c26 => absurd c26 (by decide))
          refine lv_aload_n hx hb dX7_terms_69 rfl (lv_at hl 0 rfl) ?_
          refine lv_iconst (v := 5) hx hb dX7_terms_70 (by decide) ?_
          refine call_v (cVt (k := 1076) (av := [.int 5]) (rest := []) B hP hS (c_remember l E ρ 5 ((congrFun (hM 1076 (by decide)) 6).trans (show r0 1076 6 = 0 by decide +kernel))) lk_RX7_118 (hrecv (ci := 7) B hP (hk_lt (c := 7) (by decide +kernel) (by decide)) (hcc7 _ _ (by decide +kernel)) rfl) rfl rfl hl.1 (Nat.le_of_ble_eq_true rfl) ⟨Nat.le_of_ble_eq_true rfl, Nat.le_of_ble_eq_true rfl⟩ ⟨Nat.le_of_ble_eq_true rfl, Nat.le_of_ble_eq_true rfl⟩ dX7_terms_71) hS (fun ρ28 H locs q29 hP hS => ?_)
          refine lv_aload_n hx hb dX7_terms_74 rfl (lv_at hl 0 rfl) ?_
          refine get7 B hP (by decide +kernel) 3 (by decide) mw_1030 rfl dX7_terms_75 ?_
          refine lv_bipush (v := 8) hx hb dX7_terms_78 (by decide) ?_
          refine lv_iload_n hx hb dX7_terms_80 rfl (lv_at hl 1 rfl) ?_
          refine lv_iadd hx hb dX7_terms_81 ?_
          refine aldf (n := 695) (j := 9) (v := 16) B hP (by decide +kernel) (by decide +kernel) (by rw [c6]; decide) (by decide) (by decide) ((congrFun (q29 1078 (by decide) (by decide) (by decide)) 9).trans ((congrFun (hM 1078 (by decide)) 9).trans (show r0 1078 9 = 16 by decide +kernel))) dX7_terms_82 ?_
          refine lv_istore_n (lv' := [(3, .int 16), (0, .ref (E.2.1 + 1076)), (1, .int a1), (2, .int a2)]) hx hb dX7_terms_83 rfl hl (by decide) rfl (fun ls hl => ?_)
          refine lv_aload_n hx hb dX7_terms_84 rfl (lv_at hl 1 rfl) ?_
          refine get7 B hP (by decide +kernel) 3 (by decide) mw_1030 rfl dX7_terms_85 ?_
          refine lv_bipush (v := 8) hx hb dX7_terms_88 (by decide) ?_
          refine lv_iload_n hx hb dX7_terms_90 rfl (lv_at hl 2 rfl) ?_
          refine lv_iadd hx hb dX7_terms_91 ?_
          refine lv_iload_n hx hb dX7_terms_92 rfl (lv_at hl 3 rfl) ?_
          refine astn (n := 695) (j := 9) B hP hS (by decide +kernel) (by decide +kernel) (by rw [c6]; decide) (by decide) (by decide) dX7_terms_93 (fun H locs hP hS => ?_)
          obtain ⟨ρ30, e31⟩ : ∃ z, z = up ρ28 1078 9 a2 := ⟨_, rfl⟩
          rw [← e31] at hP
          refine lv_aload_n hx hb dX7_terms_94 rfl (lv_at hl 1 rfl) ?_
          refine lv_iload_n hx hb dX7_terms_95 rfl (lv_at hl 0 rfl) ?_
          refine call_i (cVt (k := 1076) (av := [.int 16]) (rest := []) B hP hS (c_mtell l E ρ30 16) lk_RX7_68 (hrecv (ci := 7) B hP (hk_lt (c := 7) (by decide +kernel) (by decide)) (hcc7 _ _ (by decide +kernel)) rfl) rfl rfl hl.1 (Nat.le_of_ble_eq_true rfl) ⟨Nat.le_of_ble_eq_true rfl, Nat.le_of_ble_eq_true rfl⟩ ⟨Nat.le_of_ble_eq_true rfl, Nat.le_of_ble_eq_true rfl⟩ dX7_terms_96) hS (fun r32 ρ33 H locs q34 hP hS => ?_)
          obtain rfl := q34
          exact ret_i B hr hlk hP hS dX7_terms_99 (Or.inl ⟨tm_w1 c6 q25, tmv_1 c6⟩)
        · skip
          refine lv_if_ne (tgt := 69) hx hb dX7_terms_45 (by decide) (fun c35 => absurd c35 (by decide)) (fun _ => ?_)
          refine lv_goto (tgt := 63) hx hb dX7_terms_48 (by decide) ?_
          refine lv_aload_n hx hb dX7_terms_63 rfl (lv_at hl 0 rfl) ?_
          refine lv_iconst (v := (-1)) hx hb dX7_terms_64 (by decide) ?_
          refine call_i (cVt (k := 1076) (av := [.int (-1)]) (rest := []) B hP hS (c_mrefuse l E ρ (-1) ⟨1, by decide, by decide⟩) lk_RX7_64 (hrecv (ci := 7) B hP (hk_lt (c := 7) (by decide +kernel) (by decide)) (hcc7 _ _ (by decide +kernel)) rfl) rfl rfl hl.1 (Nat.le_of_ble_eq_true rfl) ⟨Nat.le_of_ble_eq_true rfl, Nat.le_of_ble_eq_true rfl⟩ ⟨Nat.le_of_ble_eq_true rfl, Nat.le_of_ble_eq_true rfl⟩ dX7_terms_65) hS (fun r36 ρ37 H locs q38 hP hS => ?_)
          obtain rfl := q38
          exact ret_i B hr hlk hP hS dX7_terms_68 (Or.inr ⟨tm_wn1 c6 q25, rfl⟩)
    · skip
      refine lv_iload_n hx hb dX7_terms_21 rfl (lv_at hl 2 rfl) ?_
      refine lv_i2l hx hb dX7_terms_22 rfl ?_
      refine lv_lconst (v := 0) hx hb dX7_terms_23 (by decide) ?_
      refine lv_ldc2 (v := 1000000) hx hb hown (hts _ mw_1193) dX7_terms_24 ?_
      refine call_i (cS (av := [.long a2.toInt64, .long 0, .long 1000000]) (rest := []) B hP hS (c_in l E ρ a2.toInt64 0 1000000 0 1000000 (by decide) (by decide)) lk_RX7_71 rfl rfl hl.1 (Nat.le_of_ble_eq_true rfl) ⟨Nat.le_of_ble_eq_true rfl, Nat.le_of_ble_eq_true rfl⟩ ⟨Nat.le_of_ble_eq_true rfl, Nat.le_of_ble_eq_true rfl⟩ dX7_terms_27) hS (fun r39 ρ40 H locs q41 hP hS => ?_)
      obtain ⟨rfl, q41⟩ := q41
      rw [lR_i] at q41
      rcases q41 with ⟨rfl, q41⟩ | ⟨rfl, q41⟩
      · skip
        refine lv_if_ne (tgt := 69) hx hb dX7_terms_30 (by decide) (fun _ => ?_) (fun c42 => absurd c42 (by decide))
        refine lv_aload_n hx hb dX7_terms_69 rfl (lv_at hl 0 rfl) ?_
        refine lv_iconst (v := 5) hx hb dX7_terms_70 (by decide) ?_
        refine call_v (cVt (k := 1076) (av := [.int 5]) (rest := []) B hP hS (c_remember l E ρ 5 ((congrFun (hM 1076 (by decide)) 6).trans (show r0 1076 6 = 0 by decide +kernel))) lk_RX7_118 (hrecv (ci := 7) B hP (hk_lt (c := 7) (by decide +kernel) (by decide)) (hcc7 _ _ (by decide +kernel)) rfl) rfl rfl hl.1 (Nat.le_of_ble_eq_true rfl) ⟨Nat.le_of_ble_eq_true rfl, Nat.le_of_ble_eq_true rfl⟩ ⟨Nat.le_of_ble_eq_true rfl, Nat.le_of_ble_eq_true rfl⟩ dX7_terms_71) hS (fun ρ44 H locs q45 hP hS => ?_)
        refine lv_aload_n hx hb dX7_terms_74 rfl (lv_at hl 0 rfl) ?_
        refine get7 B hP (by decide +kernel) 3 (by decide) mw_1030 rfl dX7_terms_75 ?_
        refine lv_bipush (v := 8) hx hb dX7_terms_78 (by decide) ?_
        refine lv_iload_n hx hb dX7_terms_80 rfl (lv_at hl 1 rfl) ?_
        refine lv_iadd hx hb dX7_terms_81 ?_
        refine aldf (n := 695) (j := 8) (v := 1) B hP (by decide +kernel) (by decide +kernel) (by rw [c5]; decide) (by decide) (by decide) ((congrFun (q45 1078 (by decide) (by decide) (by decide)) 8).trans ((congrFun (hM 1078 (by decide)) 8).trans (show r0 1078 8 = 1 by decide +kernel))) dX7_terms_82 ?_
        refine lv_istore_n (lv' := [(3, .int 1), (0, .ref (E.2.1 + 1076)), (1, .int a1), (2, .int a2)]) hx hb dX7_terms_83 rfl hl (by decide) rfl (fun ls hl => ?_)
        refine lv_aload_n hx hb dX7_terms_84 rfl (lv_at hl 1 rfl) ?_
        refine get7 B hP (by decide +kernel) 3 (by decide) mw_1030 rfl dX7_terms_85 ?_
        refine lv_bipush (v := 8) hx hb dX7_terms_88 (by decide) ?_
        refine lv_iload_n hx hb dX7_terms_90 rfl (lv_at hl 2 rfl) ?_
        refine lv_iadd hx hb dX7_terms_91 ?_
        refine lv_iload_n hx hb dX7_terms_92 rfl (lv_at hl 3 rfl) ?_
        refine astn (n := 695) (j := 8) B hP hS (by decide +kernel) (by decide +kernel) (by rw [c5]; decide) (by decide) (by decide) dX7_terms_93 (fun H locs hP hS => ?_)
        obtain ⟨ρ46, e47⟩ : ∃ z, z = up ρ44 1078 8 a2 := ⟨_, rfl⟩
        rw [← e47] at hP
        refine lv_aload_n hx hb dX7_terms_94 rfl (lv_at hl 1 rfl) ?_
        refine lv_iload_n hx hb dX7_terms_95 rfl (lv_at hl 0 rfl) ?_
        refine call_i (cVt (k := 1076) (av := [.int 1]) (rest := []) B hP hS (c_mtell l E ρ46 1) lk_RX7_68 (hrecv (ci := 7) B hP (hk_lt (c := 7) (by decide +kernel) (by decide)) (hcc7 _ _ (by decide +kernel)) rfl) rfl rfl hl.1 (Nat.le_of_ble_eq_true rfl) ⟨Nat.le_of_ble_eq_true rfl, Nat.le_of_ble_eq_true rfl⟩ ⟨Nat.le_of_ble_eq_true rfl, Nat.le_of_ble_eq_true rfl⟩ dX7_terms_96) hS (fun r48 ρ49 H locs q50 hP hS => ?_)
        obtain rfl := q50
        exact ret_i B hr hlk hP hS dX7_terms_99 (Or.inl ⟨tm_w0 c5 q41, tmv_0 c5⟩)
      · skip
        refine lv_if_ne (tgt := 69) hx hb dX7_terms_30 (by decide) (fun c51 => absurd c51 (by decide)) (fun _ => ?_)
        refine lv_goto (tgt := 63) hx hb dX7_terms_33 (by decide) ?_
        refine lv_aload_n hx hb dX7_terms_63 rfl (lv_at hl 0 rfl) ?_
        refine lv_iconst (v := (-1)) hx hb dX7_terms_64 (by decide) ?_
        refine call_i (cVt (k := 1076) (av := [.int (-1)]) (rest := []) B hP hS (c_mrefuse l E ρ (-1) ⟨1, by decide, by decide⟩) lk_RX7_64 (hrecv (ci := 7) B hP (hk_lt (c := 7) (by decide +kernel) (by decide)) (hcc7 _ _ (by decide +kernel)) rfl) rfl rfl hl.1 (Nat.le_of_ble_eq_true rfl) ⟨Nat.le_of_ble_eq_true rfl, Nat.le_of_ble_eq_true rfl⟩ ⟨Nat.le_of_ble_eq_true rfl, Nat.le_of_ble_eq_true rfl⟩ dX7_terms_65) hS (fun r52 ρ53 H locs q54 hP hS => ?_)
        obtain rfl := q54
        exact ret_i B hr hlk hP hS dX7_terms_68 (Or.inr ⟨tm_wn0 c5 q41, rfl⟩)
  · skip
    refine lv_if_eq (tgt := 63) hx hb dX7_terms_14 (by decide) (fun _ => ?_) (fun c55 => absurd c55 (by decide))
    refine lv_aload_n hx hb dX7_terms_63 rfl (lv_at hl 0 rfl) ?_
    refine lv_iconst (v := (-1)) hx hb dX7_terms_64 (by decide) ?_
    refine call_i (cVt (k := 1076) (av := [.int (-1)]) (rest := []) B hP hS (c_mrefuse l E ρ (-1) ⟨1, by decide, by decide⟩) lk_RX7_64 (hrecv (ci := 7) B hP (hk_lt (c := 7) (by decide +kernel) (by decide)) (hcc7 _ _ (by decide +kernel)) rfl) rfl rfl hl.1 (Nat.le_of_ble_eq_true rfl) ⟨Nat.le_of_ble_eq_true rfl, Nat.le_of_ble_eq_true rfl⟩ ⟨Nat.le_of_ble_eq_true rfl, Nat.le_of_ble_eq_true rfl⟩ dX7_terms_65) hS (fun r56 ρ57 H locs q58 hP hS => ?_)
    obtain rfl := q58
    exact ret_i B hr hlk hP hS dX7_terms_68 (Or.inr ⟨tm_big q3, rfl⟩)

set_option maxHeartbeats 4000000 in
set_option maxRecDepth 100000 in
theorem c_mput (l : Launch) (E : hE) (ρ : Nat → Nat → Int32) (a1 a2 a3 a4 : Int32) (hM : MF ρ) : Met l yX7_put (.code yX7_put cX7_put 7 (some .int) :: gw_all) (rmk 5 200) (cPre E ρ [.ref (E.2.1 + 1076), .int a1, .int a2, .int a3, .int a4]) (cI E (fun r _ => ((iR a3 0 1 ∧ iR a4 0 255) ∧ r = -2) ∨ (¬ (iR a3 0 1 ∧ iR a4 0 255) ∧ r = -1))) 0 0 (hA E) := by
  refine ent (own := RX7) (by decide) rfl (Nat.le_of_ble_eq_true rfl) ?_
  intro p e s m below meth c ls B hr hlk hl hP hS
  have hx := B.1.1
  have hb := B.1.2.1
  have hown := B.1.2.2.2.1
  have hts := B.1.2.2.2.2
  have hl : lv_has ls 7 [(0, .ref (E.2.1 + 1076)), (1, .int a1), (2, .int a2), (3, .int a3), (4, .int a4)] := hl
  refine lv_aload_n hx hb dX7_put_0 rfl (lv_at hl 0 rfl) ?_
  refine lv_iconst (v := 0) hx hb dX7_put_1 (by decide) ?_
  refine put7 B hP hS (by decide +kernel) 0 (by decide) mw_1027 rfl rfl rfl (fs7_0 E 1076 _ _) dX7_put_2 (fun H locs hP hS => ?_)
  rw [up_self ρ ((congrFun (hM 1076 (by decide)) 0).trans (show r0 1076 0 = 0 by decide +kernel))] at hP
  refine lv_iload_n hx hb dX7_put_5 rfl (lv_at hl 3 rfl) ?_
  refine lv_i2l hx hb dX7_put_6 rfl ?_
  refine lv_lconst (v := 0) hx hb dX7_put_7 (by decide) ?_
  refine lv_lconst (v := 1) hx hb dX7_put_8 (by decide) ?_
  refine call_i (cS (av := [.long a3.toInt64, .long 0, .long 1]) (rest := []) B hP hS (c_in l E ρ a3.toInt64 0 1 0 1 (by decide) (by decide)) lk_RX7_71 rfl rfl hl.1 (Nat.le_of_ble_eq_true rfl) ⟨Nat.le_of_ble_eq_true rfl, Nat.le_of_ble_eq_true rfl⟩ ⟨Nat.le_of_ble_eq_true rfl, Nat.le_of_ble_eq_true rfl⟩ dX7_put_9) hS (fun r1 ρ2 H locs q3 hP hS => ?_)
  obtain ⟨rfl, q3⟩ := q3
  rw [lR_i] at q3
  rcases q3 with ⟨rfl, q3⟩ | ⟨rfl, q3⟩
  · skip
    refine lv_if_eq (tgt := 28) hx hb dX7_put_12 (by decide) (fun c4 => absurd c4 (by decide)) (fun _ => ?_)
    refine lv_iload hx hb dX7_put_15 (lv_at hl 4 rfl) ?_
    refine lv_i2l hx hb dX7_put_17 rfl ?_
    refine lv_lconst (v := 0) hx hb dX7_put_18 (by decide) ?_
    refine lv_ldc2 (v := 255) hx hb hown (hts _ mw_1203) dX7_put_19 ?_
    refine call_i (cS (av := [.long a4.toInt64, .long 0, .long 255]) (rest := []) B hP hS (c_in l E ρ a4.toInt64 0 255 0 255 (by decide) (by decide)) lk_RX7_71 rfl rfl hl.1 (Nat.le_of_ble_eq_true rfl) ⟨Nat.le_of_ble_eq_true rfl, Nat.le_of_ble_eq_true rfl⟩ ⟨Nat.le_of_ble_eq_true rfl, Nat.le_of_ble_eq_true rfl⟩ dX7_put_22) hS (fun r5 ρ6 H locs q7 hP hS => ?_)
    obtain ⟨rfl, q7⟩ := q7
    rw [lR_i] at q7
    rcases q7 with ⟨rfl, q7⟩ | ⟨rfl, q7⟩
    · skip
      refine lv_if_ne (tgt := 34) hx hb dX7_put_25 (by decide) (fun _ => ?_) (fun c8 => absurd c8 (by decide))
      refine lv_aload_n hx hb dX7_put_34 rfl (lv_at hl 0 rfl) ?_
      refine lv_iload_n hx hb dX7_put_35 rfl (lv_at hl 1 rfl) ?_
      refine lv_iload_n hx hb dX7_put_36 rfl (lv_at hl 2 rfl) ?_
      refine call_i (cVt (k := 1076) (av := [.int a1, .int a2]) (rest := []) B hP hS (c_isLink l E ρ a1 a2 ⟨((congrFun (hM 1078 (by decide)) 42).trans (show r0 1078 42 = (-1) by decide +kernel)), ((congrFun (hM 1078 (by decide)) 368).trans (show r0 1078 368 = (-1) by decide +kernel))⟩) lk_RX7_106 (hrecv (ci := 7) B hP (hk_lt (c := 7) (by decide +kernel) (by decide)) (hcc7 _ _ (by decide +kernel)) rfl) rfl rfl hl.1 (Nat.le_of_ble_eq_true rfl) ⟨Nat.le_of_ble_eq_true rfl, Nat.le_of_ble_eq_true rfl⟩ ⟨Nat.le_of_ble_eq_true rfl, Nat.le_of_ble_eq_true rfl⟩ dX7_put_37) hS (fun r9 ρ10 H locs q11 hP hS => ?_)
      obtain ⟨rfl, rfl⟩ := q11
      refine lv_if_ne (tgt := 50) hx hb dX7_put_40 (by decide) (fun c12 => absurd c12 (by decide)) (fun _ => ?_)
      refine lv_aload_n hx hb dX7_put_43 rfl (lv_at hl 0 rfl) ?_
      refine lv_bipush (v := (-2)) hx hb dX7_put_44 (by decide) ?_
      refine call_i (cVt (k := 1076) (av := [.int (-2)]) (rest := []) B hP hS (c_mrefuse l E ρ (-2) ⟨2, by decide, by decide⟩) lk_RX7_64 (hrecv (ci := 7) B hP (hk_lt (c := 7) (by decide +kernel) (by decide)) (hcc7 _ _ (by decide +kernel)) rfl) rfl rfl hl.1 (Nat.le_of_ble_eq_true rfl) ⟨Nat.le_of_ble_eq_true rfl, Nat.le_of_ble_eq_true rfl⟩ ⟨Nat.le_of_ble_eq_true rfl, Nat.le_of_ble_eq_true rfl⟩ dX7_put_46) hS (fun r13 ρ14 H locs q15 hP hS => ?_)
      obtain rfl := q15
      exact ret_i B hr hlk hP hS dX7_put_49 (Or.inl ⟨⟨q3, q7⟩, rfl⟩)
    · skip
      refine lv_if_ne (tgt := 34) hx hb dX7_put_25 (by decide) (fun c16 => absurd c16 (by decide)) (fun _ => ?_)
      refine lv_aload_n hx hb dX7_put_28 rfl (lv_at hl 0 rfl) ?_
      refine lv_iconst (v := (-1)) hx hb dX7_put_29 (by decide) ?_
      refine call_i (cVt (k := 1076) (av := [.int (-1)]) (rest := []) B hP hS (c_mrefuse l E ρ (-1) ⟨1, by decide, by decide⟩) lk_RX7_64 (hrecv (ci := 7) B hP (hk_lt (c := 7) (by decide +kernel) (by decide)) (hcc7 _ _ (by decide +kernel)) rfl) rfl rfl hl.1 (Nat.le_of_ble_eq_true rfl) ⟨Nat.le_of_ble_eq_true rfl, Nat.le_of_ble_eq_true rfl⟩ ⟨Nat.le_of_ble_eq_true rfl, Nat.le_of_ble_eq_true rfl⟩ dX7_put_30) hS (fun r17 ρ18 H locs q19 hP hS => ?_)
      obtain rfl := q19
      exact ret_i B hr hlk hP hS dX7_put_33 (Or.inr ⟨fun z => q7 z.2, rfl⟩)
  · skip
    refine lv_if_eq (tgt := 28) hx hb dX7_put_12 (by decide) (fun _ => ?_) (fun c20 => absurd c20 (by decide))
    refine lv_aload_n hx hb dX7_put_28 rfl (lv_at hl 0 rfl) ?_
    refine lv_iconst (v := (-1)) hx hb dX7_put_29 (by decide) ?_
    refine call_i (cVt (k := 1076) (av := [.int (-1)]) (rest := []) B hP hS (c_mrefuse l E ρ (-1) ⟨1, by decide, by decide⟩) lk_RX7_64 (hrecv (ci := 7) B hP (hk_lt (c := 7) (by decide +kernel) (by decide)) (hcc7 _ _ (by decide +kernel)) rfl) rfl rfl hl.1 (Nat.le_of_ble_eq_true rfl) ⟨Nat.le_of_ble_eq_true rfl, Nat.le_of_ble_eq_true rfl⟩ ⟨Nat.le_of_ble_eq_true rfl, Nat.le_of_ble_eq_true rfl⟩ dX7_put_30) hS (fun r21 ρ22 H locs q23 hP hS => ?_)
    obtain rfl := q23
    exact ret_i B hr hlk hP hS dX7_put_33 (Or.inr ⟨fun z => q3 z.1, rfl⟩)

theorem lk_RX7_149 : LkS RX7 149 yX7_isEven cX7_isEven 3 (some .boolean) 3 := ⟨⟨mw_1212, mw_1213, mw_59, mw_1214⟩, by decide +kernel⟩
set_option maxHeartbeats 4000000 in
set_option maxRecDepth 100000 in
theorem c_mreserve (l : Launch) (E : hE) (ρ : Nat → Nat → Int32) (a1 a2 a3 a4 a5 : Int32) (hM : MF ρ) : Met l yX7_reserve (.code yX7_reserve cX7_reserve 8 (some .int) :: gw_all) (rmk 5 200) (cPre E ρ [.ref (E.2.1 + 1076), .int a1, .int a2, .int a3, .int a4, .int a5]) (cI E (fun r _ => ((a3 = 0 ∨ (iR a3 6 40 ∧ ev a3) ∧ (iR a4 0 (a3 - 1).toInt ∧ ev a4) ∧ iR a5 1 3) ∧ r = -2) ∨ (¬ (a3 = 0 ∨ (iR a3 6 40 ∧ ev a3) ∧ (iR a4 0 (a3 - 1).toInt ∧ ev a4) ∧ iR a5 1 3) ∧ r = -1))) 0 0 (hA E) := by
  refine ent (own := RX7) (by decide) rfl (Nat.le_of_ble_eq_true rfl) ?_
  intro p e s m below meth c ls B hr hlk hl hP hS
  have hx := B.1.1
  have hb := B.1.2.1
  have hown := B.1.2.2.2.1
  have hts := B.1.2.2.2.2
  have hl : lv_has ls 8 [(0, .ref (E.2.1 + 1076)), (1, .int a1), (2, .int a2), (3, .int a3), (4, .int a4), (5, .int a5)] := hl
  refine lv_aload_n hx hb dX7_reserve_0 rfl (lv_at hl 0 rfl) ?_
  refine lv_iconst (v := 0) hx hb dX7_reserve_1 (by decide) ?_
  refine put7 B hP hS (by decide +kernel) 0 (by decide) mw_1027 rfl rfl rfl (fs7_0 E 1076 _ _) dX7_reserve_2 (fun H locs hP hS => ?_)
  rw [up_self ρ ((congrFun (hM 1076 (by decide)) 0).trans (show r0 1076 0 = 0 by decide +kernel))] at hP
  refine lv_iload_n hx hb dX7_reserve_5 rfl (lv_at hl 3 rfl) ?_
  refine lv_if_eq (tgt := 51) hx hb dX7_reserve_6 (by decide) (fun c1 => ?_) (fun c1 => ?_)
  · skip
    refine lv_aload_n hx hb dX7_reserve_51 rfl (lv_at hl 0 rfl) ?_
    refine lv_iload_n hx hb dX7_reserve_52 rfl (lv_at hl 1 rfl) ?_
    refine lv_iload_n hx hb dX7_reserve_53 rfl (lv_at hl 2 rfl) ?_
    refine call_i (cVt (k := 1076) (av := [.int a1, .int a2]) (rest := []) B hP hS (c_isLink l E ρ a1 a2 ⟨((congrFun (hM 1078 (by decide)) 42).trans (show r0 1078 42 = (-1) by decide +kernel)), ((congrFun (hM 1078 (by decide)) 368).trans (show r0 1078 368 = (-1) by decide +kernel))⟩) lk_RX7_106 (hrecv (ci := 7) B hP (hk_lt (c := 7) (by decide +kernel) (by decide)) (hcc7 _ _ (by decide +kernel)) rfl) rfl rfl hl.1 (Nat.le_of_ble_eq_true rfl) ⟨Nat.le_of_ble_eq_true rfl, Nat.le_of_ble_eq_true rfl⟩ ⟨Nat.le_of_ble_eq_true rfl, Nat.le_of_ble_eq_true rfl⟩ dX7_reserve_54) hS (fun r2 ρ3 H locs q4 hP hS => ?_)
    obtain ⟨rfl, rfl⟩ := q4
    refine lv_if_ne (tgt := 67) hx hb dX7_reserve_57 (by decide) (fun c5 => absurd c5 (by decide)) (fun _ => ?_)
    refine lv_aload_n hx hb dX7_reserve_60 rfl (lv_at hl 0 rfl) ?_
    refine lv_bipush (v := (-2)) hx hb dX7_reserve_61 (by decide) ?_
    refine call_i (cVt (k := 1076) (av := [.int (-2)]) (rest := []) B hP hS (c_mrefuse l E ρ (-2) ⟨2, by decide, by decide⟩) lk_RX7_64 (hrecv (ci := 7) B hP (hk_lt (c := 7) (by decide +kernel) (by decide)) (hcc7 _ _ (by decide +kernel)) rfl) rfl rfl hl.1 (Nat.le_of_ble_eq_true rfl) ⟨Nat.le_of_ble_eq_true rfl, Nat.le_of_ble_eq_true rfl⟩ ⟨Nat.le_of_ble_eq_true rfl, Nat.le_of_ble_eq_true rfl⟩ dX7_reserve_63) hS (fun r6 ρ7 H locs q8 hP hS => ?_)
    obtain rfl := q8
    exact ret_i B hr hlk hP hS dX7_reserve_66 (Or.inl ⟨Or.inl c1, rfl⟩)
  · skip
    refine lv_iload_n hx hb dX7_reserve_9 rfl (lv_at hl 3 rfl) ?_
    refine lv_bipush (v := 6) hx hb dX7_reserve_10 (by decide) ?_
    refine lv_bipush (v := 40) hx hb dX7_reserve_12 (by decide) ?_
    refine call_i (cS (av := [.int a3, .int 6, .int 40]) (rest := []) B hP hS (c_isEven l E ρ a3 6 40 6 40 (by decide) (by decide)) lk_RX7_149 rfl rfl hl.1 (Nat.le_of_ble_eq_true rfl) ⟨Nat.le_of_ble_eq_true rfl, Nat.le_of_ble_eq_true rfl⟩ ⟨Nat.le_of_ble_eq_true rfl, Nat.le_of_ble_eq_true rfl⟩ dX7_reserve_14) hS (fun r9 ρ10 H locs q11 hP hS => ?_)
    obtain ⟨rfl, q11⟩ := q11
    rcases q11 with ⟨rfl, q11⟩ | ⟨rfl, q11⟩
    · skip
      refine lv_if_eq (tgt := 45) hx hb dX7_reserve_17 (by decide) (fun c12 => absurd c12 (by decide)) (fun _ => ?_)
      refine lv_iload hx hb dX7_reserve_20 (lv_at hl 4 rfl) ?_
      refine lv_iconst (v := 0) hx hb dX7_reserve_22 (by decide) ?_
      refine lv_iload_n hx hb dX7_reserve_23 rfl (lv_at hl 3 rfl) ?_
      refine lv_iconst (v := 1) hx hb dX7_reserve_24 (by decide) ?_
      refine lv_isub hx hb dX7_reserve_25 ?_
      refine call_i (cS (av := [.int a4, .int 0, .int (a3 - 1)]) (rest := []) B hP hS (c_isEven l E ρ a4 0 (a3 - 1) 0 (a3 - 1).toInt (by decide) rfl) lk_RX7_149 rfl rfl hl.1 (Nat.le_of_ble_eq_true rfl) ⟨Nat.le_of_ble_eq_true rfl, Nat.le_of_ble_eq_true rfl⟩ ⟨Nat.le_of_ble_eq_true rfl, Nat.le_of_ble_eq_true rfl⟩ dX7_reserve_26) hS (fun r13 ρ14 H locs q15 hP hS => ?_)
      obtain ⟨rfl, q15⟩ := q15
      rcases q15 with ⟨rfl, q15⟩ | ⟨rfl, q15⟩
      · skip
        refine lv_if_eq (tgt := 45) hx hb dX7_reserve_29 (by decide) (fun c16 => absurd c16 (by decide)) (fun _ => ?_)
        refine lv_iload hx hb dX7_reserve_32 (lv_at hl 5 rfl) ?_
        refine lv_i2l hx hb dX7_reserve_34 rfl ?_
        refine lv_lconst (v := 1) hx hb dX7_reserve_35 (by decide) ?_
        refine lv_ldc2 (v := 3) hx hb hown (hts _ mw_1227) dX7_reserve_36 ?_
        refine call_i (cS (av := [.long a5.toInt64, .long 1, .long 3]) (rest := []) B hP hS (c_in l E ρ a5.toInt64 1 3 1 3 (by decide) (by decide)) lk_RX7_71 rfl rfl hl.1 (Nat.le_of_ble_eq_true rfl) ⟨Nat.le_of_ble_eq_true rfl, Nat.le_of_ble_eq_true rfl⟩ ⟨Nat.le_of_ble_eq_true rfl, Nat.le_of_ble_eq_true rfl⟩ dX7_reserve_39) hS (fun r17 ρ18 H locs q19 hP hS => ?_)
        obtain ⟨rfl, q19⟩ := q19
        rw [lR_i] at q19
        rcases q19 with ⟨rfl, q19⟩ | ⟨rfl, q19⟩
        · skip
          refine lv_if_ne (tgt := 51) hx hb dX7_reserve_42 (by decide) (fun _ => ?_) (fun c20 => absurd c20 (by decide))
          refine lv_aload_n hx hb dX7_reserve_51 rfl (lv_at hl 0 rfl) ?_
          refine lv_iload_n hx hb dX7_reserve_52 rfl (lv_at hl 1 rfl) ?_
          refine lv_iload_n hx hb dX7_reserve_53 rfl (lv_at hl 2 rfl) ?_
          refine call_i (cVt (k := 1076) (av := [.int a1, .int a2]) (rest := []) B hP hS (c_isLink l E ρ a1 a2 ⟨((congrFun (hM 1078 (by decide)) 42).trans (show r0 1078 42 = (-1) by decide +kernel)), ((congrFun (hM 1078 (by decide)) 368).trans (show r0 1078 368 = (-1) by decide +kernel))⟩) lk_RX7_106 (hrecv (ci := 7) B hP (hk_lt (c := 7) (by decide +kernel) (by decide)) (hcc7 _ _ (by decide +kernel)) rfl) rfl rfl hl.1 (Nat.le_of_ble_eq_true rfl) ⟨Nat.le_of_ble_eq_true rfl, Nat.le_of_ble_eq_true rfl⟩ ⟨Nat.le_of_ble_eq_true rfl, Nat.le_of_ble_eq_true rfl⟩ dX7_reserve_54) hS (fun r21 ρ22 H locs q23 hP hS => ?_)
          obtain ⟨rfl, rfl⟩ := q23
          refine lv_if_ne (tgt := 67) hx hb dX7_reserve_57 (by decide) (fun c24 => absurd c24 (by decide)) (fun _ => ?_)
          refine lv_aload_n hx hb dX7_reserve_60 rfl (lv_at hl 0 rfl) ?_
          refine lv_bipush (v := (-2)) hx hb dX7_reserve_61 (by decide) ?_
          refine call_i (cVt (k := 1076) (av := [.int (-2)]) (rest := []) B hP hS (c_mrefuse l E ρ (-2) ⟨2, by decide, by decide⟩) lk_RX7_64 (hrecv (ci := 7) B hP (hk_lt (c := 7) (by decide +kernel) (by decide)) (hcc7 _ _ (by decide +kernel)) rfl) rfl rfl hl.1 (Nat.le_of_ble_eq_true rfl) ⟨Nat.le_of_ble_eq_true rfl, Nat.le_of_ble_eq_true rfl⟩ ⟨Nat.le_of_ble_eq_true rfl, Nat.le_of_ble_eq_true rfl⟩ dX7_reserve_63) hS (fun r25 ρ26 H locs q27 hP hS => ?_)
          obtain rfl := q27
          exact ret_i B hr hlk hP hS dX7_reserve_66 (Or.inl ⟨Or.inr ⟨q11, q15, q19⟩, rfl⟩)
        · skip
          refine lv_if_ne (tgt := 51) hx hb dX7_reserve_42 (by decide) (fun c28 => absurd c28 (by decide)) (fun _ => ?_)
          refine lv_aload_n hx hb dX7_reserve_45 rfl (lv_at hl 0 rfl) ?_
          refine lv_iconst (v := (-1)) hx hb dX7_reserve_46 (by decide) ?_
          refine call_i (cVt (k := 1076) (av := [.int (-1)]) (rest := []) B hP hS (c_mrefuse l E ρ (-1) ⟨1, by decide, by decide⟩) lk_RX7_64 (hrecv (ci := 7) B hP (hk_lt (c := 7) (by decide +kernel) (by decide)) (hcc7 _ _ (by decide +kernel)) rfl) rfl rfl hl.1 (Nat.le_of_ble_eq_true rfl) ⟨Nat.le_of_ble_eq_true rfl, Nat.le_of_ble_eq_true rfl⟩ ⟨Nat.le_of_ble_eq_true rfl, Nat.le_of_ble_eq_true rfl⟩ dX7_reserve_47) hS (fun r29 ρ30 H locs q31 hP hS => ?_)
          obtain rfl := q31
          exact ret_i B hr hlk hP hS dX7_reserve_50 (Or.inr ⟨fun z => z.elim c1 (fun z => q19 z.2.2), rfl⟩)
      · skip
        refine lv_if_eq (tgt := 45) hx hb dX7_reserve_29 (by decide) (fun _ => ?_) (fun c32 => absurd c32 (by decide))
        refine lv_aload_n hx hb dX7_reserve_45 rfl (lv_at hl 0 rfl) ?_
        refine lv_iconst (v := (-1)) hx hb dX7_reserve_46 (by decide) ?_
        refine call_i (cVt (k := 1076) (av := [.int (-1)]) (rest := []) B hP hS (c_mrefuse l E ρ (-1) ⟨1, by decide, by decide⟩) lk_RX7_64 (hrecv (ci := 7) B hP (hk_lt (c := 7) (by decide +kernel) (by decide)) (hcc7 _ _ (by decide +kernel)) rfl) rfl rfl hl.1 (Nat.le_of_ble_eq_true rfl) ⟨Nat.le_of_ble_eq_true rfl, Nat.le_of_ble_eq_true rfl⟩ ⟨Nat.le_of_ble_eq_true rfl, Nat.le_of_ble_eq_true rfl⟩ dX7_reserve_47) hS (fun r33 ρ34 H locs q35 hP hS => ?_)
        obtain rfl := q35
        exact ret_i B hr hlk hP hS dX7_reserve_50 (Or.inr ⟨fun z => z.elim c1 (fun z => q15 z.2.1), rfl⟩)
    · skip
      refine lv_if_eq (tgt := 45) hx hb dX7_reserve_17 (by decide) (fun _ => ?_) (fun c36 => absurd c36 (by decide))
      refine lv_aload_n hx hb dX7_reserve_45 rfl (lv_at hl 0 rfl) ?_
      refine lv_iconst (v := (-1)) hx hb dX7_reserve_46 (by decide) ?_
      refine call_i (cVt (k := 1076) (av := [.int (-1)]) (rest := []) B hP hS (c_mrefuse l E ρ (-1) ⟨1, by decide, by decide⟩) lk_RX7_64 (hrecv (ci := 7) B hP (hk_lt (c := 7) (by decide +kernel) (by decide)) (hcc7 _ _ (by decide +kernel)) rfl) rfl rfl hl.1 (Nat.le_of_ble_eq_true rfl) ⟨Nat.le_of_ble_eq_true rfl, Nat.le_of_ble_eq_true rfl⟩ ⟨Nat.le_of_ble_eq_true rfl, Nat.le_of_ble_eq_true rfl⟩ dX7_reserve_47) hS (fun r37 ρ38 H locs q39 hP hS => ?_)
      obtain rfl := q39
      exact ret_i B hr hlk hP hS dX7_reserve_50 (Or.inr ⟨fun z => z.elim c1 (fun z => q11 z.1), rfl⟩)

set_option maxHeartbeats 4000000 in
set_option maxRecDepth 100000 in
theorem c_msniff (l : Launch) (E : hE) (ρ : Nat → Nat → Int32) (a1 a2 a3 a4 : Int32) (hM : MF ρ) : Met l yX7_sniff (.code yX7_sniff cX7_sniff 7 (some .int) :: gw_all) (rmk 5 200) (cPre E ρ [.ref (E.2.1 + 1076), .int a1, .int a2, .int a3, .int a4]) (cI E (fun r _ => ((a3 = 0 ∨ (iR a3 8 64 ∧ ev a3) ∧ iR a4 1 4) ∧ r = -2) ∨ (¬ (a3 = 0 ∨ (iR a3 8 64 ∧ ev a3) ∧ iR a4 1 4) ∧ r = -1))) 0 0 (hA E) := by
  refine ent (own := RX7) (by decide) rfl (Nat.le_of_ble_eq_true rfl) ?_
  intro p e s m below meth c ls B hr hlk hl hP hS
  have hx := B.1.1
  have hb := B.1.2.1
  have hown := B.1.2.2.2.1
  have hts := B.1.2.2.2.2
  have hl : lv_has ls 7 [(0, .ref (E.2.1 + 1076)), (1, .int a1), (2, .int a2), (3, .int a3), (4, .int a4)] := hl
  refine lv_aload_n hx hb dX7_sniff_0 rfl (lv_at hl 0 rfl) ?_
  refine lv_iconst (v := 0) hx hb dX7_sniff_1 (by decide) ?_
  refine put7 B hP hS (by decide +kernel) 0 (by decide) mw_1027 rfl rfl rfl (fs7_0 E 1076 _ _) dX7_sniff_2 (fun H locs hP hS => ?_)
  rw [up_self ρ ((congrFun (hM 1076 (by decide)) 0).trans (show r0 1076 0 = 0 by decide +kernel))] at hP
  refine lv_iload_n hx hb dX7_sniff_5 rfl (lv_at hl 3 rfl) ?_
  refine lv_if_eq (tgt := 39) hx hb dX7_sniff_6 (by decide) (fun c1 => ?_) (fun c1 => ?_)
  · skip
    refine lv_aload_n hx hb dX7_sniff_39 rfl (lv_at hl 0 rfl) ?_
    refine lv_iload_n hx hb dX7_sniff_40 rfl (lv_at hl 1 rfl) ?_
    refine lv_iload_n hx hb dX7_sniff_41 rfl (lv_at hl 2 rfl) ?_
    refine call_i (cVt (k := 1076) (av := [.int a1, .int a2]) (rest := []) B hP hS (c_isLink l E ρ a1 a2 ⟨((congrFun (hM 1078 (by decide)) 42).trans (show r0 1078 42 = (-1) by decide +kernel)), ((congrFun (hM 1078 (by decide)) 368).trans (show r0 1078 368 = (-1) by decide +kernel))⟩) lk_RX7_106 (hrecv (ci := 7) B hP (hk_lt (c := 7) (by decide +kernel) (by decide)) (hcc7 _ _ (by decide +kernel)) rfl) rfl rfl hl.1 (Nat.le_of_ble_eq_true rfl) ⟨Nat.le_of_ble_eq_true rfl, Nat.le_of_ble_eq_true rfl⟩ ⟨Nat.le_of_ble_eq_true rfl, Nat.le_of_ble_eq_true rfl⟩ dX7_sniff_42) hS (fun r2 ρ3 H locs q4 hP hS => ?_)
    obtain ⟨rfl, rfl⟩ := q4
    refine lv_if_ne (tgt := 55) hx hb dX7_sniff_45 (by decide) (fun c5 => absurd c5 (by decide)) (fun _ => ?_)
    refine lv_aload_n hx hb dX7_sniff_48 rfl (lv_at hl 0 rfl) ?_
    refine lv_bipush (v := (-2)) hx hb dX7_sniff_49 (by decide) ?_
    refine call_i (cVt (k := 1076) (av := [.int (-2)]) (rest := []) B hP hS (c_mrefuse l E ρ (-2) ⟨2, by decide, by decide⟩) lk_RX7_64 (hrecv (ci := 7) B hP (hk_lt (c := 7) (by decide +kernel) (by decide)) (hcc7 _ _ (by decide +kernel)) rfl) rfl rfl hl.1 (Nat.le_of_ble_eq_true rfl) ⟨Nat.le_of_ble_eq_true rfl, Nat.le_of_ble_eq_true rfl⟩ ⟨Nat.le_of_ble_eq_true rfl, Nat.le_of_ble_eq_true rfl⟩ dX7_sniff_51) hS (fun r6 ρ7 H locs q8 hP hS => ?_)
    obtain rfl := q8
    exact ret_i B hr hlk hP hS dX7_sniff_54 (Or.inl ⟨Or.inl c1, rfl⟩)
  · skip
    refine lv_iload_n hx hb dX7_sniff_9 rfl (lv_at hl 3 rfl) ?_
    refine lv_bipush (v := 8) hx hb dX7_sniff_10 (by decide) ?_
    refine lv_bipush (v := 64) hx hb dX7_sniff_12 (by decide) ?_
    refine call_i (cS (av := [.int a3, .int 8, .int 64]) (rest := []) B hP hS (c_isEven l E ρ a3 8 64 8 64 (by decide) (by decide)) lk_RX7_149 rfl rfl hl.1 (Nat.le_of_ble_eq_true rfl) ⟨Nat.le_of_ble_eq_true rfl, Nat.le_of_ble_eq_true rfl⟩ ⟨Nat.le_of_ble_eq_true rfl, Nat.le_of_ble_eq_true rfl⟩ dX7_sniff_14) hS (fun r9 ρ10 H locs q11 hP hS => ?_)
    obtain ⟨rfl, q11⟩ := q11
    rcases q11 with ⟨rfl, q11⟩ | ⟨rfl, q11⟩
    · skip
      refine lv_if_eq (tgt := 33) hx hb dX7_sniff_17 (by decide) (fun c12 => absurd c12 (by decide)) (fun _ => ?_)
      refine lv_iload hx hb dX7_sniff_20 (lv_at hl 4 rfl) ?_
      refine lv_i2l hx hb dX7_sniff_22 rfl ?_
      refine lv_lconst (v := 1) hx hb dX7_sniff_23 (by decide) ?_
      refine lv_ldc2 (v := 4) hx hb hown (hts _ mw_1198) dX7_sniff_24 ?_
      refine call_i (cS (av := [.long a4.toInt64, .long 1, .long 4]) (rest := []) B hP hS (c_in l E ρ a4.toInt64 1 4 1 4 (by decide) (by decide)) lk_RX7_71 rfl rfl hl.1 (Nat.le_of_ble_eq_true rfl) ⟨Nat.le_of_ble_eq_true rfl, Nat.le_of_ble_eq_true rfl⟩ ⟨Nat.le_of_ble_eq_true rfl, Nat.le_of_ble_eq_true rfl⟩ dX7_sniff_27) hS (fun r13 ρ14 H locs q15 hP hS => ?_)
      obtain ⟨rfl, q15⟩ := q15
      rw [lR_i] at q15
      rcases q15 with ⟨rfl, q15⟩ | ⟨rfl, q15⟩
      · skip
        refine lv_if_ne (tgt := 39) hx hb dX7_sniff_30 (by decide) (fun _ => ?_) (fun c16 => absurd c16 (by decide))
        refine lv_aload_n hx hb dX7_sniff_39 rfl (lv_at hl 0 rfl) ?_
        refine lv_iload_n hx hb dX7_sniff_40 rfl (lv_at hl 1 rfl) ?_
        refine lv_iload_n hx hb dX7_sniff_41 rfl (lv_at hl 2 rfl) ?_
        refine call_i (cVt (k := 1076) (av := [.int a1, .int a2]) (rest := []) B hP hS (c_isLink l E ρ a1 a2 ⟨((congrFun (hM 1078 (by decide)) 42).trans (show r0 1078 42 = (-1) by decide +kernel)), ((congrFun (hM 1078 (by decide)) 368).trans (show r0 1078 368 = (-1) by decide +kernel))⟩) lk_RX7_106 (hrecv (ci := 7) B hP (hk_lt (c := 7) (by decide +kernel) (by decide)) (hcc7 _ _ (by decide +kernel)) rfl) rfl rfl hl.1 (Nat.le_of_ble_eq_true rfl) ⟨Nat.le_of_ble_eq_true rfl, Nat.le_of_ble_eq_true rfl⟩ ⟨Nat.le_of_ble_eq_true rfl, Nat.le_of_ble_eq_true rfl⟩ dX7_sniff_42) hS (fun r17 ρ18 H locs q19 hP hS => ?_)
        obtain ⟨rfl, rfl⟩ := q19
        refine lv_if_ne (tgt := 55) hx hb dX7_sniff_45 (by decide) (fun c20 => absurd c20 (by decide)) (fun _ => ?_)
        refine lv_aload_n hx hb dX7_sniff_48 rfl (lv_at hl 0 rfl) ?_
        refine lv_bipush (v := (-2)) hx hb dX7_sniff_49 (by decide) ?_
        refine call_i (cVt (k := 1076) (av := [.int (-2)]) (rest := []) B hP hS (c_mrefuse l E ρ (-2) ⟨2, by decide, by decide⟩) lk_RX7_64 (hrecv (ci := 7) B hP (hk_lt (c := 7) (by decide +kernel) (by decide)) (hcc7 _ _ (by decide +kernel)) rfl) rfl rfl hl.1 (Nat.le_of_ble_eq_true rfl) ⟨Nat.le_of_ble_eq_true rfl, Nat.le_of_ble_eq_true rfl⟩ ⟨Nat.le_of_ble_eq_true rfl, Nat.le_of_ble_eq_true rfl⟩ dX7_sniff_51) hS (fun r21 ρ22 H locs q23 hP hS => ?_)
        obtain rfl := q23
        exact ret_i B hr hlk hP hS dX7_sniff_54 (Or.inl ⟨Or.inr ⟨q11, q15⟩, rfl⟩)
      · skip
        refine lv_if_ne (tgt := 39) hx hb dX7_sniff_30 (by decide) (fun c24 => absurd c24 (by decide)) (fun _ => ?_)
        refine lv_aload_n hx hb dX7_sniff_33 rfl (lv_at hl 0 rfl) ?_
        refine lv_iconst (v := (-1)) hx hb dX7_sniff_34 (by decide) ?_
        refine call_i (cVt (k := 1076) (av := [.int (-1)]) (rest := []) B hP hS (c_mrefuse l E ρ (-1) ⟨1, by decide, by decide⟩) lk_RX7_64 (hrecv (ci := 7) B hP (hk_lt (c := 7) (by decide +kernel) (by decide)) (hcc7 _ _ (by decide +kernel)) rfl) rfl rfl hl.1 (Nat.le_of_ble_eq_true rfl) ⟨Nat.le_of_ble_eq_true rfl, Nat.le_of_ble_eq_true rfl⟩ ⟨Nat.le_of_ble_eq_true rfl, Nat.le_of_ble_eq_true rfl⟩ dX7_sniff_35) hS (fun r25 ρ26 H locs q27 hP hS => ?_)
        obtain rfl := q27
        exact ret_i B hr hlk hP hS dX7_sniff_38 (Or.inr ⟨fun z => z.elim c1 (fun z => q15 z.2), rfl⟩)
    · skip
      refine lv_if_eq (tgt := 33) hx hb dX7_sniff_17 (by decide) (fun _ => ?_) (fun c28 => absurd c28 (by decide))
      refine lv_aload_n hx hb dX7_sniff_33 rfl (lv_at hl 0 rfl) ?_
      refine lv_iconst (v := (-1)) hx hb dX7_sniff_34 (by decide) ?_
      refine call_i (cVt (k := 1076) (av := [.int (-1)]) (rest := []) B hP hS (c_mrefuse l E ρ (-1) ⟨1, by decide, by decide⟩) lk_RX7_64 (hrecv (ci := 7) B hP (hk_lt (c := 7) (by decide +kernel) (by decide)) (hcc7 _ _ (by decide +kernel)) rfl) rfl rfl hl.1 (Nat.le_of_ble_eq_true rfl) ⟨Nat.le_of_ble_eq_true rfl, Nat.le_of_ble_eq_true rfl⟩ ⟨Nat.le_of_ble_eq_true rfl, Nat.le_of_ble_eq_true rfl⟩ dX7_sniff_35) hS (fun r29 ρ30 H locs q31 hP hS => ?_)
      obtain rfl := q31
      exact ret_i B hr hlk hP hS dX7_sniff_38 (Or.inr ⟨fun z => z.elim c1 (fun z => q11 z.1), rfl⟩)

set_option maxHeartbeats 4000000 in
set_option maxRecDepth 100000 in
theorem c_mweigh (l : Launch) (E : hE) (ρ : Nat → Nat → Int32) (a1 a2 a3 : Int32) (hM : MF ρ) : Met l yX7_weigh (.code yX7_weigh cX7_weigh 6 (some .int) :: gw_all) (rmk 5 200) (cPre E ρ [.ref (E.2.1 + 1076), .int a1, .int a2, .int a3]) (cI E (fun r _ => ((iR a3 1 4) ∧ r = -2) ∨ (¬ (iR a3 1 4) ∧ r = -1))) 0 0 (hA E) := by
  refine ent (own := RX7) (by decide) rfl (Nat.le_of_ble_eq_true rfl) ?_
  intro p e s m below meth c ls B hr hlk hl hP hS
  have hx := B.1.1
  have hb := B.1.2.1
  have hown := B.1.2.2.2.1
  have hts := B.1.2.2.2.2
  have hl : lv_has ls 6 [(0, .ref (E.2.1 + 1076)), (1, .int a1), (2, .int a2), (3, .int a3)] := hl
  refine lv_aload_n hx hb dX7_weigh_0 rfl (lv_at hl 0 rfl) ?_
  refine lv_iconst (v := 0) hx hb dX7_weigh_1 (by decide) ?_
  refine put7 B hP hS (by decide +kernel) 0 (by decide) mw_1027 rfl rfl rfl (fs7_0 E 1076 _ _) dX7_weigh_2 (fun H locs hP hS => ?_)
  rw [up_self ρ ((congrFun (hM 1076 (by decide)) 0).trans (show r0 1076 0 = 0 by decide +kernel))] at hP
  refine lv_iload_n hx hb dX7_weigh_5 rfl (lv_at hl 3 rfl) ?_
  refine lv_i2l hx hb dX7_weigh_6 rfl ?_
  refine lv_lconst (v := 1) hx hb dX7_weigh_7 (by decide) ?_
  refine lv_ldc2 (v := 4) hx hb hown (hts _ mw_1198) dX7_weigh_8 ?_
  refine call_i (cS (av := [.long a3.toInt64, .long 1, .long 4]) (rest := []) B hP hS (c_in l E ρ a3.toInt64 1 4 1 4 (by decide) (by decide)) lk_RX7_71 rfl rfl hl.1 (Nat.le_of_ble_eq_true rfl) ⟨Nat.le_of_ble_eq_true rfl, Nat.le_of_ble_eq_true rfl⟩ ⟨Nat.le_of_ble_eq_true rfl, Nat.le_of_ble_eq_true rfl⟩ dX7_weigh_11) hS (fun r1 ρ2 H locs q3 hP hS => ?_)
  obtain ⟨rfl, q3⟩ := q3
  rw [lR_i] at q3
  rcases q3 with ⟨rfl, q3⟩ | ⟨rfl, q3⟩
  · skip
    refine lv_if_ne (tgt := 23) hx hb dX7_weigh_14 (by decide) (fun _ => ?_) (fun c4 => absurd c4 (by decide))
    refine lv_aload_n hx hb dX7_weigh_23 rfl (lv_at hl 0 rfl) ?_
    refine lv_iload_n hx hb dX7_weigh_24 rfl (lv_at hl 1 rfl) ?_
    refine lv_iload_n hx hb dX7_weigh_25 rfl (lv_at hl 2 rfl) ?_
    refine call_i (cVt (k := 1076) (av := [.int a1, .int a2]) (rest := []) B hP hS (c_isLink l E ρ a1 a2 ⟨((congrFun (hM 1078 (by decide)) 42).trans (show r0 1078 42 = (-1) by decide +kernel)), ((congrFun (hM 1078 (by decide)) 368).trans (show r0 1078 368 = (-1) by decide +kernel))⟩) lk_RX7_106 (hrecv (ci := 7) B hP (hk_lt (c := 7) (by decide +kernel) (by decide)) (hcc7 _ _ (by decide +kernel)) rfl) rfl rfl hl.1 (Nat.le_of_ble_eq_true rfl) ⟨Nat.le_of_ble_eq_true rfl, Nat.le_of_ble_eq_true rfl⟩ ⟨Nat.le_of_ble_eq_true rfl, Nat.le_of_ble_eq_true rfl⟩ dX7_weigh_26) hS (fun r5 ρ6 H locs q7 hP hS => ?_)
    obtain ⟨rfl, rfl⟩ := q7
    refine lv_if_ne (tgt := 39) hx hb dX7_weigh_29 (by decide) (fun c8 => absurd c8 (by decide)) (fun _ => ?_)
    refine lv_aload_n hx hb dX7_weigh_32 rfl (lv_at hl 0 rfl) ?_
    refine lv_bipush (v := (-2)) hx hb dX7_weigh_33 (by decide) ?_
    refine call_i (cVt (k := 1076) (av := [.int (-2)]) (rest := []) B hP hS (c_mrefuse l E ρ (-2) ⟨2, by decide, by decide⟩) lk_RX7_64 (hrecv (ci := 7) B hP (hk_lt (c := 7) (by decide +kernel) (by decide)) (hcc7 _ _ (by decide +kernel)) rfl) rfl rfl hl.1 (Nat.le_of_ble_eq_true rfl) ⟨Nat.le_of_ble_eq_true rfl, Nat.le_of_ble_eq_true rfl⟩ ⟨Nat.le_of_ble_eq_true rfl, Nat.le_of_ble_eq_true rfl⟩ dX7_weigh_35) hS (fun r9 ρ10 H locs q11 hP hS => ?_)
    obtain rfl := q11
    exact ret_i B hr hlk hP hS dX7_weigh_38 (Or.inl ⟨q3, rfl⟩)
  · skip
    refine lv_if_ne (tgt := 23) hx hb dX7_weigh_14 (by decide) (fun c12 => absurd c12 (by decide)) (fun _ => ?_)
    refine lv_aload_n hx hb dX7_weigh_17 rfl (lv_at hl 0 rfl) ?_
    refine lv_iconst (v := (-1)) hx hb dX7_weigh_18 (by decide) ?_
    refine call_i (cVt (k := 1076) (av := [.int (-1)]) (rest := []) B hP hS (c_mrefuse l E ρ (-1) ⟨1, by decide, by decide⟩) lk_RX7_64 (hrecv (ci := 7) B hP (hk_lt (c := 7) (by decide +kernel) (by decide)) (hcc7 _ _ (by decide +kernel)) rfl) rfl rfl hl.1 (Nat.le_of_ble_eq_true rfl) ⟨Nat.le_of_ble_eq_true rfl, Nat.le_of_ble_eq_true rfl⟩ ⟨Nat.le_of_ble_eq_true rfl, Nat.le_of_ble_eq_true rfl⟩ dX7_weigh_19) hS (fun r13 ρ14 H locs q15 hP hS => ?_)
    obtain rfl := q15
    exact ret_i B hr hlk hP hS dX7_weigh_22 (Or.inr ⟨fun z => q3 z, rfl⟩)

set_option maxHeartbeats 4000000 in
set_option maxRecDepth 100000 in
theorem c_mcast (l : Launch) (E : hE) (ρ : Nat → Nat → Int32) (a1 a2 : Int32) (hM : MF ρ) : Met l yX7_cast (.code yX7_cast cX7_cast 4 (some .int) :: gw_all) (rmk 5 200) (cPre E ρ [.ref (E.2.1 + 1076), .int a1, .int a2]) (cI E (fun r _ => ((iR a2 0 255) ∧ r = -2) ∨ (¬ (iR a2 0 255) ∧ r = -1))) 0 0 (hA E) := by
  refine ent (own := RX7) (by decide) rfl (Nat.le_of_ble_eq_true rfl) ?_
  intro p e s m below meth c ls B hr hlk hl hP hS
  have hx := B.1.1
  have hb := B.1.2.1
  have hown := B.1.2.2.2.1
  have hts := B.1.2.2.2.2
  have hl : lv_has ls 4 [(0, .ref (E.2.1 + 1076)), (1, .int a1), (2, .int a2)] := hl
  refine lv_aload_n hx hb dX7_cast_0 rfl (lv_at hl 0 rfl) ?_
  refine lv_iconst (v := 0) hx hb dX7_cast_1 (by decide) ?_
  refine put7 B hP hS (by decide +kernel) 0 (by decide) mw_1027 rfl rfl rfl (fs7_0 E 1076 _ _) dX7_cast_2 (fun H locs hP hS => ?_)
  rw [up_self ρ ((congrFun (hM 1076 (by decide)) 0).trans (show r0 1076 0 = 0 by decide +kernel))] at hP
  refine lv_iload_n hx hb dX7_cast_5 rfl (lv_at hl 2 rfl) ?_
  refine lv_i2l hx hb dX7_cast_6 rfl ?_
  refine lv_lconst (v := 0) hx hb dX7_cast_7 (by decide) ?_
  refine lv_ldc2 (v := 255) hx hb hown (hts _ mw_1203) dX7_cast_8 ?_
  refine call_i (cS (av := [.long a2.toInt64, .long 0, .long 255]) (rest := []) B hP hS (c_in l E ρ a2.toInt64 0 255 0 255 (by decide) (by decide)) lk_RX7_71 rfl rfl hl.1 (Nat.le_of_ble_eq_true rfl) ⟨Nat.le_of_ble_eq_true rfl, Nat.le_of_ble_eq_true rfl⟩ ⟨Nat.le_of_ble_eq_true rfl, Nat.le_of_ble_eq_true rfl⟩ dX7_cast_11) hS (fun r1 ρ2 H locs q3 hP hS => ?_)
  obtain ⟨rfl, q3⟩ := q3
  rw [lR_i] at q3
  rcases q3 with ⟨rfl, q3⟩ | ⟨rfl, q3⟩
  · skip
    refine lv_if_ne (tgt := 23) hx hb dX7_cast_14 (by decide) (fun _ => ?_) (fun c4 => absurd c4 (by decide))
    refine lv_aload_n hx hb dX7_cast_23 rfl (lv_at hl 0 rfl) ?_
    refine lv_iload_n hx hb dX7_cast_24 rfl (lv_at hl 1 rfl) ?_
    refine call_i (cVt (k := 1076) (av := [.int a1]) (rest := []) B hP hS (c_isNet l E ρ a1 ⟨((congrFun (hM 1078 (by decide)) 42).trans (show r0 1078 42 = (-1) by decide +kernel)), ((congrFun (hM 1078 (by decide)) 368).trans (show r0 1078 368 = (-1) by decide +kernel))⟩) lk_RX7_78 (hrecv (ci := 7) B hP (hk_lt (c := 7) (by decide +kernel) (by decide)) (hcc7 _ _ (by decide +kernel)) rfl) rfl rfl hl.1 (Nat.le_of_ble_eq_true rfl) ⟨Nat.le_of_ble_eq_true rfl, Nat.le_of_ble_eq_true rfl⟩ ⟨Nat.le_of_ble_eq_true rfl, Nat.le_of_ble_eq_true rfl⟩ dX7_cast_25) hS (fun r5 ρ6 H locs q7 hP hS => ?_)
    obtain ⟨rfl, rfl⟩ := q7
    refine lv_if_ne (tgt := 38) hx hb dX7_cast_28 (by decide) (fun c8 => absurd c8 (by decide)) (fun _ => ?_)
    refine lv_aload_n hx hb dX7_cast_31 rfl (lv_at hl 0 rfl) ?_
    refine lv_bipush (v := (-2)) hx hb dX7_cast_32 (by decide) ?_
    refine call_i (cVt (k := 1076) (av := [.int (-2)]) (rest := []) B hP hS (c_mrefuse l E ρ (-2) ⟨2, by decide, by decide⟩) lk_RX7_64 (hrecv (ci := 7) B hP (hk_lt (c := 7) (by decide +kernel) (by decide)) (hcc7 _ _ (by decide +kernel)) rfl) rfl rfl hl.1 (Nat.le_of_ble_eq_true rfl) ⟨Nat.le_of_ble_eq_true rfl, Nat.le_of_ble_eq_true rfl⟩ ⟨Nat.le_of_ble_eq_true rfl, Nat.le_of_ble_eq_true rfl⟩ dX7_cast_34) hS (fun r9 ρ10 H locs q11 hP hS => ?_)
    obtain rfl := q11
    exact ret_i B hr hlk hP hS dX7_cast_37 (Or.inl ⟨q3, rfl⟩)
  · skip
    refine lv_if_ne (tgt := 23) hx hb dX7_cast_14 (by decide) (fun c12 => absurd c12 (by decide)) (fun _ => ?_)
    refine lv_aload_n hx hb dX7_cast_17 rfl (lv_at hl 0 rfl) ?_
    refine lv_iconst (v := (-1)) hx hb dX7_cast_18 (by decide) ?_
    refine call_i (cVt (k := 1076) (av := [.int (-1)]) (rest := []) B hP hS (c_mrefuse l E ρ (-1) ⟨1, by decide, by decide⟩) lk_RX7_64 (hrecv (ci := 7) B hP (hk_lt (c := 7) (by decide +kernel) (by decide)) (hcc7 _ _ (by decide +kernel)) rfl) rfl rfl hl.1 (Nat.le_of_ble_eq_true rfl) ⟨Nat.le_of_ble_eq_true rfl, Nat.le_of_ble_eq_true rfl⟩ ⟨Nat.le_of_ble_eq_true rfl, Nat.le_of_ble_eq_true rfl⟩ dX7_cast_19) hS (fun r13 ρ14 H locs q15 hP hS => ?_)
    obtain rfl := q15
    exact ret_i B hr hlk hP hS dX7_cast_22 (Or.inr ⟨fun z => q3 z, rfl⟩)

set_option maxHeartbeats 4000000 in
set_option maxRecDepth 100000 in
theorem c_madapt (l : Launch) (E : hE) (ρ : Nat → Nat → Int32) (a1 a2 a3 : Int32) (hM : MF ρ) : Met l yX7_adapt (.code yX7_adapt cX7_adapt 8 (some .int) :: gw_all) (rmk 5 200) (cPre E ρ [.ref (E.2.1 + 1076), .int a1, .int a2, .int a3]) (cI E (fun r _ => ((iR a2 1 99 ∧ iR a3 1 100) ∧ r = -2) ∨ (¬ (iR a2 1 99 ∧ iR a3 1 100) ∧ r = -1))) 0 0 (hA E) := by
  refine ent (own := RX7) (by decide) rfl (Nat.le_of_ble_eq_true rfl) ?_
  intro p e s m below meth c ls B hr hlk hl hP hS
  have hx := B.1.1
  have hb := B.1.2.1
  have hown := B.1.2.2.2.1
  have hts := B.1.2.2.2.2
  have hl : lv_has ls 8 [(0, .ref (E.2.1 + 1076)), (1, .int a1), (2, .int a2), (3, .int a3)] := hl
  refine lv_aload_n hx hb dX7_adapt_0 rfl (lv_at hl 0 rfl) ?_
  refine lv_iconst (v := 0) hx hb dX7_adapt_1 (by decide) ?_
  refine put7 B hP hS (by decide +kernel) 0 (by decide) mw_1027 rfl rfl rfl (fs7_0 E 1076 _ _) dX7_adapt_2 (fun H locs hP hS => ?_)
  rw [up_self ρ ((congrFun (hM 1076 (by decide)) 0).trans (show r0 1076 0 = 0 by decide +kernel))] at hP
  refine lv_iload_n hx hb dX7_adapt_5 rfl (lv_at hl 2 rfl) ?_
  refine lv_i2l hx hb dX7_adapt_6 rfl ?_
  refine lv_lconst (v := 1) hx hb dX7_adapt_7 (by decide) ?_
  refine lv_ldc2 (v := 99) hx hb hown (hts _ mw_1242) dX7_adapt_8 ?_
  refine call_i (cS (av := [.long a2.toInt64, .long 1, .long 99]) (rest := []) B hP hS (c_in l E ρ a2.toInt64 1 99 1 99 (by decide) (by decide)) lk_RX7_71 rfl rfl hl.1 (Nat.le_of_ble_eq_true rfl) ⟨Nat.le_of_ble_eq_true rfl, Nat.le_of_ble_eq_true rfl⟩ ⟨Nat.le_of_ble_eq_true rfl, Nat.le_of_ble_eq_true rfl⟩ dX7_adapt_11) hS (fun r1 ρ2 H locs q3 hP hS => ?_)
  obtain ⟨rfl, q3⟩ := q3
  rw [lR_i] at q3
  rcases q3 with ⟨rfl, q3⟩ | ⟨rfl, q3⟩
  · skip
    refine lv_if_eq (tgt := 29) hx hb dX7_adapt_14 (by decide) (fun c4 => absurd c4 (by decide)) (fun _ => ?_)
    refine lv_iload_n hx hb dX7_adapt_17 rfl (lv_at hl 3 rfl) ?_
    refine lv_i2l hx hb dX7_adapt_18 rfl ?_
    refine lv_lconst (v := 1) hx hb dX7_adapt_19 (by decide) ?_
    refine lv_ldc2 (v := 100) hx hb hown (hts _ mw_1233) dX7_adapt_20 ?_
    refine call_i (cS (av := [.long a3.toInt64, .long 1, .long 100]) (rest := []) B hP hS (c_in l E ρ a3.toInt64 1 100 1 100 (by decide) (by decide)) lk_RX7_71 rfl rfl hl.1 (Nat.le_of_ble_eq_true rfl) ⟨Nat.le_of_ble_eq_true rfl, Nat.le_of_ble_eq_true rfl⟩ ⟨Nat.le_of_ble_eq_true rfl, Nat.le_of_ble_eq_true rfl⟩ dX7_adapt_23) hS (fun r5 ρ6 H locs q7 hP hS => ?_)
    obtain ⟨rfl, q7⟩ := q7
    rw [lR_i] at q7
    rcases q7 with ⟨rfl, q7⟩ | ⟨rfl, q7⟩
    · skip
      refine lv_if_ne (tgt := 35) hx hb dX7_adapt_26 (by decide) (fun _ => ?_) (fun c8 => absurd c8 (by decide))
      refine lv_aload_n hx hb dX7_adapt_35 rfl (lv_at hl 0 rfl) ?_
      refine lv_iload_n hx hb dX7_adapt_36 rfl (lv_at hl 1 rfl) ?_
      refine call_i (cVt (k := 1076) (av := [.int a1]) (rest := []) B hP hS (c_isNet l E ρ a1 ⟨((congrFun (hM 1078 (by decide)) 42).trans (show r0 1078 42 = (-1) by decide +kernel)), ((congrFun (hM 1078 (by decide)) 368).trans (show r0 1078 368 = (-1) by decide +kernel))⟩) lk_RX7_78 (hrecv (ci := 7) B hP (hk_lt (c := 7) (by decide +kernel) (by decide)) (hcc7 _ _ (by decide +kernel)) rfl) rfl rfl hl.1 (Nat.le_of_ble_eq_true rfl) ⟨Nat.le_of_ble_eq_true rfl, Nat.le_of_ble_eq_true rfl⟩ ⟨Nat.le_of_ble_eq_true rfl, Nat.le_of_ble_eq_true rfl⟩ dX7_adapt_37) hS (fun r9 ρ10 H locs q11 hP hS => ?_)
      obtain ⟨rfl, rfl⟩ := q11
      refine lv_if_ne (tgt := 50) hx hb dX7_adapt_40 (by decide) (fun c12 => absurd c12 (by decide)) (fun _ => ?_)
      refine lv_aload_n hx hb dX7_adapt_43 rfl (lv_at hl 0 rfl) ?_
      refine lv_bipush (v := (-2)) hx hb dX7_adapt_44 (by decide) ?_
      refine call_i (cVt (k := 1076) (av := [.int (-2)]) (rest := []) B hP hS (c_mrefuse l E ρ (-2) ⟨2, by decide, by decide⟩) lk_RX7_64 (hrecv (ci := 7) B hP (hk_lt (c := 7) (by decide +kernel) (by decide)) (hcc7 _ _ (by decide +kernel)) rfl) rfl rfl hl.1 (Nat.le_of_ble_eq_true rfl) ⟨Nat.le_of_ble_eq_true rfl, Nat.le_of_ble_eq_true rfl⟩ ⟨Nat.le_of_ble_eq_true rfl, Nat.le_of_ble_eq_true rfl⟩ dX7_adapt_46) hS (fun r13 ρ14 H locs q15 hP hS => ?_)
      obtain rfl := q15
      exact ret_i B hr hlk hP hS dX7_adapt_49 (Or.inl ⟨⟨q3, q7⟩, rfl⟩)
    · skip
      refine lv_if_ne (tgt := 35) hx hb dX7_adapt_26 (by decide) (fun c16 => absurd c16 (by decide)) (fun _ => ?_)
      refine lv_aload_n hx hb dX7_adapt_29 rfl (lv_at hl 0 rfl) ?_
      refine lv_iconst (v := (-1)) hx hb dX7_adapt_30 (by decide) ?_
      refine call_i (cVt (k := 1076) (av := [.int (-1)]) (rest := []) B hP hS (c_mrefuse l E ρ (-1) ⟨1, by decide, by decide⟩) lk_RX7_64 (hrecv (ci := 7) B hP (hk_lt (c := 7) (by decide +kernel) (by decide)) (hcc7 _ _ (by decide +kernel)) rfl) rfl rfl hl.1 (Nat.le_of_ble_eq_true rfl) ⟨Nat.le_of_ble_eq_true rfl, Nat.le_of_ble_eq_true rfl⟩ ⟨Nat.le_of_ble_eq_true rfl, Nat.le_of_ble_eq_true rfl⟩ dX7_adapt_31) hS (fun r17 ρ18 H locs q19 hP hS => ?_)
      obtain rfl := q19
      exact ret_i B hr hlk hP hS dX7_adapt_34 (Or.inr ⟨fun z => q7 z.2, rfl⟩)
  · skip
    refine lv_if_eq (tgt := 29) hx hb dX7_adapt_14 (by decide) (fun _ => ?_) (fun c20 => absurd c20 (by decide))
    refine lv_aload_n hx hb dX7_adapt_29 rfl (lv_at hl 0 rfl) ?_
    refine lv_iconst (v := (-1)) hx hb dX7_adapt_30 (by decide) ?_
    refine call_i (cVt (k := 1076) (av := [.int (-1)]) (rest := []) B hP hS (c_mrefuse l E ρ (-1) ⟨1, by decide, by decide⟩) lk_RX7_64 (hrecv (ci := 7) B hP (hk_lt (c := 7) (by decide +kernel) (by decide)) (hcc7 _ _ (by decide +kernel)) rfl) rfl rfl hl.1 (Nat.le_of_ble_eq_true rfl) ⟨Nat.le_of_ble_eq_true rfl, Nat.le_of_ble_eq_true rfl⟩ ⟨Nat.le_of_ble_eq_true rfl, Nat.le_of_ble_eq_true rfl⟩ dX7_adapt_31) hS (fun r21 ρ22 H locs q23 hP hS => ?_)
    obtain rfl := q23
    exact ret_i B hr hlk hP hS dX7_adapt_34 (Or.inr ⟨fun z => q3 z.1, rfl⟩)

set_option maxHeartbeats 4000000 in
set_option maxRecDepth 100000 in
theorem c_mrun (l : Launch) (E : hE) (ρ : Nat → Nat → Int32) (a1 : Int32) (hM : MF ρ) : Met l yX7_run (.code yX7_run cX7_run 2 (some .int) :: gw_all) (rmk 5 200) (cPre E ρ [.ref (E.2.1 + 1076), .int a1]) (cI E (fun r _ => ((iR a1 1 200) ∧ r = 0) ∨ (¬ (iR a1 1 200) ∧ r = -1))) 0 0 (hA E) := by
  refine ent (own := RX7) (by decide) rfl (Nat.le_of_ble_eq_true rfl) ?_
  intro p e s m below meth c ls B hr hlk hl hP hS
  have hx := B.1.1
  have hb := B.1.2.1
  have hown := B.1.2.2.2.1
  have hts := B.1.2.2.2.2
  have hl : lv_has ls 2 [(0, .ref (E.2.1 + 1076)), (1, .int a1)] := hl
  refine lv_aload_n hx hb dX7_run_0 rfl (lv_at hl 0 rfl) ?_
  refine lv_iconst (v := 0) hx hb dX7_run_1 (by decide) ?_
  refine put7 B hP hS (by decide +kernel) 0 (by decide) mw_1027 rfl rfl rfl (fs7_0 E 1076 _ _) dX7_run_2 (fun H locs hP hS => ?_)
  rw [up_self ρ ((congrFun (hM 1076 (by decide)) 0).trans (show r0 1076 0 = 0 by decide +kernel))] at hP
  refine lv_iload_n hx hb dX7_run_5 rfl (lv_at hl 1 rfl) ?_
  refine lv_i2l hx hb dX7_run_6 rfl ?_
  refine lv_lconst (v := 1) hx hb dX7_run_7 (by decide) ?_
  refine lv_ldc2 (v := 200) hx hb hown (hts _ mw_1255) dX7_run_8 ?_
  refine call_i (cS (av := [.long a1.toInt64, .long 1, .long 200]) (rest := []) B hP hS (c_in l E ρ a1.toInt64 1 200 1 200 (by decide) (by decide)) lk_RX7_71 rfl rfl hl.1 (Nat.le_of_ble_eq_true rfl) ⟨Nat.le_of_ble_eq_true rfl, Nat.le_of_ble_eq_true rfl⟩ ⟨Nat.le_of_ble_eq_true rfl, Nat.le_of_ble_eq_true rfl⟩ dX7_run_11) hS (fun r1 ρ2 H locs q3 hP hS => ?_)
  obtain ⟨rfl, q3⟩ := q3
  rw [lR_i] at q3
  rcases q3 with ⟨rfl, q3⟩ | ⟨rfl, q3⟩
  · skip
    have hn := q3
    obtain ⟨N, hN, rfl⟩ := iR_nat hn (by decide) (by decide)
    refine lv_if_ne (tgt := 23) hx hb dX7_run_14 (by decide) (fun _ => ?_) (fun c4 => absurd c4 (by decide))
    refine lv_aload_n hx hb dX7_run_23 rfl (lv_at hl 0 rfl) ?_
    refine get7 B hP (by decide +kernel) 3 (by decide) mw_1030 rfl dX7_run_24 ?_
    refine lv_bipush (v := 7) hx hb dX7_run_27 (by decide) ?_
    refine aldf (n := 695) (j := 7) (v := 0) B hP (by decide +kernel) (by decide +kernel) rfl (by decide) (by decide) ((congrFun (hM 1078 (by decide)) 7).trans (show r0 1078 7 = 0 by decide +kernel)) dX7_run_29 ?_
    refine lv_iconst (v := 2) hx hb dX7_run_30 (by decide) ?_
    refine lv_iload_n hx hb dX7_run_31 rfl (lv_at hl 1 rfl) ?_
    refine lv_imul hx hb dX7_run_32 ?_
    refine lv_iadd hx hb dX7_run_33 ?_
    refine lv_ldc (v := 99998) hx hb hown (hts _ mw_1256) dX7_run_34 ?_
    refine lv_icmp_le (tgt := 46) hx hb dX7_run_36 (by decide) (fun _ => ?_) (fun c5 => absurd c5 (fun z => ht_ok hn (Int32.not_le.mp z)))
    refine lv_aload_n hx hb dX7_run_46 rfl (lv_at hl 0 rfl) ?_
    refine lv_bipush (v := 9) hx hb dX7_run_47 (by decide) ?_
    refine call_v (cVt (k := 1076) (av := [.int 9]) (rest := []) B hP hS (c_remember l E ρ 9 ((congrFun (hM 1076 (by decide)) 6).trans (show r0 1076 6 = 0 by decide +kernel))) lk_RX7_118 (hrecv (ci := 7) B hP (hk_lt (c := 7) (by decide +kernel) (by decide)) (hcc7 _ _ (by decide +kernel)) rfl) rfl rfl hl.1 (Nat.le_of_ble_eq_true rfl) ⟨Nat.le_of_ble_eq_true rfl, Nat.le_of_ble_eq_true rfl⟩ ⟨Nat.le_of_ble_eq_true rfl, Nat.le_of_ble_eq_true rfl⟩ dX7_run_49) hS (fun ρ7 H locs q8 hP hS => ?_)
    refine lv_aload_n hx hb dX7_run_52 rfl (lv_at hl 0 rfl) ?_
    refine lv_iload_n hx hb dX7_run_53 rfl (lv_at hl 1 rfl) ?_
    refine call_v (cVt (k := 1076) (av := [.int (nI N)]) (rest := []) B hP hS (c_turnsBy l E ρ7 N ⟨((congrFun (q8 1078 (by decide) (by decide) (by decide)) 42).trans ((congrFun (hM 1078 (by decide)) 42).trans (show r0 1078 42 = (-1) by decide +kernel))), ((congrFun (q8 1078 (by decide) (by decide) (by decide)) 368).trans ((congrFun (hM 1078 (by decide)) 368).trans (show r0 1078 368 = (-1) by decide +kernel)))⟩ (by omega)) lk_RX7_242 (hrecv (ci := 7) B hP (hk_lt (c := 7) (by decide +kernel) (by decide)) (hcc7 _ _ (by decide +kernel)) rfl) rfl rfl hl.1 (Nat.le_of_ble_eq_true rfl) ⟨Nat.le_of_ble_eq_true rfl, Nat.le_of_ble_eq_true rfl⟩ ⟨Nat.le_of_ble_eq_true rfl, Nat.le_of_ble_eq_true rfl⟩ dX7_run_54) hS (fun ρ10 H locs q11 hP hS => ?_)
    refine lv_aload_n hx hb dX7_run_57 rfl (lv_at hl 0 rfl) ?_
    refine lv_aload_n hx hb dX7_run_58 rfl (lv_at hl 0 rfl) ?_
    refine get7 B hP (by decide +kernel) 16 (by decide) mw_1043 (v := .int 0) (show some (Value.int (ρ10 1076 16)) = some (Value.int 0) from congrArg (fun z => some (Value.int z)) q11.1.1) dX7_run_59 ?_
    refine call_i (cVt (k := 1076) (av := [.int 0]) (rest := []) B hP hS (c_mtell l E ρ10 0) lk_RX7_68 (hrecv (ci := 7) B hP (hk_lt (c := 7) (by decide +kernel) (by decide)) (hcc7 _ _ (by decide +kernel)) rfl) rfl rfl hl.1 (Nat.le_of_ble_eq_true rfl) ⟨Nat.le_of_ble_eq_true rfl, Nat.le_of_ble_eq_true rfl⟩ ⟨Nat.le_of_ble_eq_true rfl, Nat.le_of_ble_eq_true rfl⟩ dX7_run_62) hS (fun r12 ρ13 H locs q14 hP hS => ?_)
    obtain rfl := q14
    exact ret_i B hr hlk hP hS dX7_run_65 (Or.inl ⟨hn, rfl⟩)
  · skip
    refine lv_if_ne (tgt := 23) hx hb dX7_run_14 (by decide) (fun c15 => absurd c15 (by decide)) (fun _ => ?_)
    refine lv_aload_n hx hb dX7_run_17 rfl (lv_at hl 0 rfl) ?_
    refine lv_iconst (v := (-1)) hx hb dX7_run_18 (by decide) ?_
    refine call_i (cVt (k := 1076) (av := [.int (-1)]) (rest := []) B hP hS (c_mrefuse l E ρ (-1) ⟨1, by decide, by decide⟩) lk_RX7_64 (hrecv (ci := 7) B hP (hk_lt (c := 7) (by decide +kernel) (by decide)) (hcc7 _ _ (by decide +kernel)) rfl) rfl rfl hl.1 (Nat.le_of_ble_eq_true rfl) ⟨Nat.le_of_ble_eq_true rfl, Nat.le_of_ble_eq_true rfl⟩ ⟨Nat.le_of_ble_eq_true rfl, Nat.le_of_ble_eq_true rfl⟩ dX7_run_19) hS (fun r16 ρ17 H locs q18 hP hS => ?_)
    obtain rfl := q18
    exact ret_i B hr hlk hP hS dX7_run_22 (Or.inr ⟨fun z => q3 z, rfl⟩)

set_option maxHeartbeats 4000000 in
set_option maxRecDepth 100000 in
theorem c_mundo (l : Launch) (E : hE) (ρ : Nat → Nat → Int32) (hM : MF ρ) : Met l yX7_undo (.code yX7_undo cX7_undo 1 (some .int) :: gw_all) (rmk 5 200) (cPre E ρ [.ref (E.2.1 + 1076)]) (cI E (fun r _ => r = (-4))) 0 0 (hA E) := by
  refine ent (own := RX7) (by decide) rfl (Nat.le_of_ble_eq_true rfl) ?_
  intro p e s m below meth c ls B hr hlk hl hP hS
  have hx := B.1.1
  have hb := B.1.2.1
  have hown := B.1.2.2.2.1
  have hts := B.1.2.2.2.2
  have hl : lv_has ls 1 [(0, .ref (E.2.1 + 1076))] := hl
  refine lv_aload_n hx hb dX7_undo_0 rfl (lv_at hl 0 rfl) ?_
  refine lv_iconst (v := 0) hx hb dX7_undo_1 (by decide) ?_
  refine put7 B hP hS (by decide +kernel) 0 (by decide) mw_1027 rfl rfl rfl (fs7_0 E 1076 _ _) dX7_undo_2 (fun H locs hP hS => ?_)
  rw [up_self ρ ((congrFun (hM 1076 (by decide)) 0).trans (show r0 1076 0 = 0 by decide +kernel))] at hP
  refine lv_aload_n hx hb dX7_undo_5 rfl (lv_at hl 0 rfl) ?_
  refine get7 B hP (by decide +kernel) 6 (by decide) mw_1033 (v := .int 0) (show some (Value.int (ρ 1076 6)) = some (Value.int 0) from congrArg (fun z => some (Value.int z)) ((congrFun (hM 1076 (by decide)) 6).trans (show r0 1076 6 = 0 by decide +kernel))) dX7_undo_6 ?_
  refine lv_if_ne (tgt := 19) hx hb dX7_undo_9 (by decide) (fun c1 => absurd c1 (by decide)) (fun _ => ?_)
  refine lv_aload_n hx hb dX7_undo_12 rfl (lv_at hl 0 rfl) ?_
  refine lv_bipush (v := (-4)) hx hb dX7_undo_13 (by decide) ?_
  refine call_i (cVt (k := 1076) (av := [.int (-4)]) (rest := []) B hP hS (c_mrefuse l E ρ (-4) ⟨4, by decide, by decide⟩) lk_RX7_64 (hrecv (ci := 7) B hP (hk_lt (c := 7) (by decide +kernel) (by decide)) (hcc7 _ _ (by decide +kernel)) rfl) rfl rfl hl.1 (Nat.le_of_ble_eq_true rfl) ⟨Nat.le_of_ble_eq_true rfl, Nat.le_of_ble_eq_true rfl⟩ ⟨Nat.le_of_ble_eq_true rfl, Nat.le_of_ble_eq_true rfl⟩ dX7_undo_15) hS (fun r2 ρ3 H locs q4 hP hS => ?_)
  obtain rfl := q4
  exact ret_i B hr hlk hP hS dX7_undo_18 (rfl)

set_option maxHeartbeats 4000000 in
set_option maxRecDepth 100000 in
theorem c_mimage (l : Launch) (E : hE) (ρ : Nat → Nat → Int32) (a1 : Int32) (hM : MF ρ) : Met l yX7_image (.code yX7_image cX7_image 2 (some .int) :: gw_all) (rmk 5 200) (cPre E ρ [.ref (E.2.1 + 1076), .int a1]) (cI E (fun r _ => ((iR a1 0 1) ∧ r = 0) ∨ (¬ (iR a1 0 1) ∧ r = -1))) 0 0 (hA E) := by
  refine ent (own := RX7) (by decide) rfl (Nat.le_of_ble_eq_true rfl) ?_
  intro p e s m below meth c ls B hr hlk hl hP hS
  have hx := B.1.1
  have hb := B.1.2.1
  have hown := B.1.2.2.2.1
  have hts := B.1.2.2.2.2
  have hl : lv_has ls 2 [(0, .ref (E.2.1 + 1076)), (1, .int a1)] := hl
  refine lv_aload_n hx hb dX7_image_0 rfl (lv_at hl 0 rfl) ?_
  refine lv_iconst (v := 0) hx hb dX7_image_1 (by decide) ?_
  refine put7 B hP hS (by decide +kernel) 0 (by decide) mw_1027 rfl rfl rfl (fs7_0 E 1076 _ _) dX7_image_2 (fun H locs hP hS => ?_)
  rw [up_self ρ ((congrFun (hM 1076 (by decide)) 0).trans (show r0 1076 0 = 0 by decide +kernel))] at hP
  refine lv_iload_n hx hb dX7_image_5 rfl (lv_at hl 1 rfl) ?_
  refine lv_i2l hx hb dX7_image_6 rfl ?_
  refine lv_lconst (v := 0) hx hb dX7_image_7 (by decide) ?_
  refine lv_lconst (v := 1) hx hb dX7_image_8 (by decide) ?_
  refine call_i (cS (av := [.long a1.toInt64, .long 0, .long 1]) (rest := []) B hP hS (c_in l E ρ a1.toInt64 0 1 0 1 (by decide) (by decide)) lk_RX7_71 rfl rfl hl.1 (Nat.le_of_ble_eq_true rfl) ⟨Nat.le_of_ble_eq_true rfl, Nat.le_of_ble_eq_true rfl⟩ ⟨Nat.le_of_ble_eq_true rfl, Nat.le_of_ble_eq_true rfl⟩ dX7_image_9) hS (fun r1 ρ2 H locs q3 hP hS => ?_)
  obtain ⟨rfl, q3⟩ := q3
  rw [lR_i] at q3
  rcases q3 with ⟨rfl, q3⟩ | ⟨rfl, q3⟩
  · skip
    have hn := q3
    obtain ⟨j, hj, rfl⟩ := iR_ix (n := 2) hn (by decide) (by decide)
    rcases (show j = 0 ∨ j = 1 by omega) with rfl | rfl
    · skip
      refine lv_if_ne (tgt := 21) hx hb dX7_image_12 (by decide) (fun _ => ?_) (fun c4 => absurd c4 (by decide))
      refine lv_aload_n hx hb dX7_image_21 rfl (lv_at hl 0 rfl) ?_
      refine get7 B hP (by decide +kernel) 3 (by decide) mw_1030 rfl dX7_image_22 ?_
      refine lv_iconst (v := 0) hx hb dX7_image_25 (by decide) ?_
      refine lv_aload_n hx hb dX7_image_26 rfl (lv_at hl 0 rfl) ?_
      refine get7 B hP (by decide +kernel) 7 (by decide) mw_1034 rfl dX7_image_27 ?_
      refine lv_sipush (v := 695) hx hb dX7_image_30 (by decide) ?_
      refine lv_iload_n hx hb dX7_image_33 rfl (lv_at hl 1 rfl) ?_
      refine lv_imul hx hb dX7_image_34 ?_
      refine lv_topi (fun z5 ez5 => ?_)
      obtain rfl : z5 = 0 := ez5.trans (by decide)
      refine call_v (cS (av := [.ref (E.2.1 + 1078), .int 0, .ref (E.2.1 + 1081), .int 0]) (rest := []) B hP hS (c_copy l E ρ 1078 1081 695 1390 0 0 (by decide +kernel) (by decide +kernel) (by decide +kernel) (by decide +kernel) (by decide) (by decide) (by decide) (by decide) (by decide)) lk_RX7_60 rfl rfl hl.1 (Nat.le_of_ble_eq_true rfl) ⟨Nat.le_of_ble_eq_true rfl, Nat.le_of_ble_eq_true rfl⟩ ⟨Nat.le_of_ble_eq_true rfl, Nat.le_of_ble_eq_true rfl⟩ dX7_image_35) hS (fun ρ7 H locs q8 hP hS => ?_)
      refine lv_aload_n hx hb dX7_image_38 rfl (lv_at hl 0 rfl) ?_
      refine get7 B hP (by decide +kernel) 8 (by decide) mw_1035 rfl dX7_image_39 ?_
      refine lv_iload_n hx hb dX7_image_42 rfl (lv_at hl 1 rfl) ?_
      refine lv_iconst (v := 1) hx hb dX7_image_43 (by decide) ?_
      refine zstn (n := 2) (j := 0) B hP hS (by decide +kernel) (by decide +kernel) rfl (by decide) (by decide) rfl dX7_image_44 (fun H locs hP hS => ?_)
      obtain ⟨ρ9, e10⟩ : ∃ z, z = up ρ7 1082 0 1 := ⟨_, rfl⟩
      rw [← e10] at hP
      refine lv_aload_n hx hb dX7_image_45 rfl (lv_at hl 0 rfl) ?_
      refine lv_aload_n hx hb dX7_image_46 rfl (lv_at hl 0 rfl) ?_
      refine get7 B hP (by decide +kernel) 3 (by decide) mw_1030 rfl dX7_image_47 ?_
      refine lv_bipush (v := 7) hx hb dX7_image_50 (by decide) ?_
      refine aldf (n := 695) (j := 7) (v := 0) B hP (by decide +kernel) (by decide +kernel) rfl (by decide) (by decide) (by rw [e10]; exact up_get_ne (Or.inl (by decide)) ((congrFun (q8.1 1078 (by decide)) 7).trans ((congrFun (hM 1078 (by decide)) 7).trans (show r0 1078 7 = 0 by decide +kernel)))) dX7_image_52 ?_
      refine call_i (cVt (k := 1076) (av := [.int 0]) (rest := []) B hP hS (c_mtell l E ρ9 0) lk_RX7_68 (hrecv (ci := 7) B hP (hk_lt (c := 7) (by decide +kernel) (by decide)) (hcc7 _ _ (by decide +kernel)) rfl) rfl rfl hl.1 (Nat.le_of_ble_eq_true rfl) ⟨Nat.le_of_ble_eq_true rfl, Nat.le_of_ble_eq_true rfl⟩ ⟨Nat.le_of_ble_eq_true rfl, Nat.le_of_ble_eq_true rfl⟩ dX7_image_53) hS (fun r11 ρ12 H locs q13 hP hS => ?_)
      obtain rfl := q13
      exact ret_i B hr hlk hP hS dX7_image_56 (Or.inl ⟨hn, rfl⟩)
    · skip
      refine lv_if_ne (tgt := 21) hx hb dX7_image_12 (by decide) (fun _ => ?_) (fun c14 => absurd c14 (by decide))
      refine lv_aload_n hx hb dX7_image_21 rfl (lv_at hl 0 rfl) ?_
      refine get7 B hP (by decide +kernel) 3 (by decide) mw_1030 rfl dX7_image_22 ?_
      refine lv_iconst (v := 0) hx hb dX7_image_25 (by decide) ?_
      refine lv_aload_n hx hb dX7_image_26 rfl (lv_at hl 0 rfl) ?_
      refine get7 B hP (by decide +kernel) 7 (by decide) mw_1034 rfl dX7_image_27 ?_
      refine lv_sipush (v := 695) hx hb dX7_image_30 (by decide) ?_
      refine lv_iload_n hx hb dX7_image_33 rfl (lv_at hl 1 rfl) ?_
      refine lv_imul hx hb dX7_image_34 ?_
      refine lv_topi (fun z15 ez15 => ?_)
      obtain rfl : z15 = 695 := ez15.trans (by decide)
      refine call_v (cS (av := [.ref (E.2.1 + 1078), .int 0, .ref (E.2.1 + 1081), .int 695]) (rest := []) B hP hS (c_copy l E ρ 1078 1081 695 1390 0 695 (by decide +kernel) (by decide +kernel) (by decide +kernel) (by decide +kernel) (by decide) (by decide) (by decide) (by decide) (by decide)) lk_RX7_60 rfl rfl hl.1 (Nat.le_of_ble_eq_true rfl) ⟨Nat.le_of_ble_eq_true rfl, Nat.le_of_ble_eq_true rfl⟩ ⟨Nat.le_of_ble_eq_true rfl, Nat.le_of_ble_eq_true rfl⟩ dX7_image_35) hS (fun ρ17 H locs q18 hP hS => ?_)
      refine lv_aload_n hx hb dX7_image_38 rfl (lv_at hl 0 rfl) ?_
      refine get7 B hP (by decide +kernel) 8 (by decide) mw_1035 rfl dX7_image_39 ?_
      refine lv_iload_n hx hb dX7_image_42 rfl (lv_at hl 1 rfl) ?_
      refine lv_iconst (v := 1) hx hb dX7_image_43 (by decide) ?_
      refine zstn (n := 2) (j := 1) B hP hS (by decide +kernel) (by decide +kernel) rfl (by decide) (by decide) rfl dX7_image_44 (fun H locs hP hS => ?_)
      obtain ⟨ρ19, e20⟩ : ∃ z, z = up ρ17 1082 1 1 := ⟨_, rfl⟩
      rw [← e20] at hP
      refine lv_aload_n hx hb dX7_image_45 rfl (lv_at hl 0 rfl) ?_
      refine lv_aload_n hx hb dX7_image_46 rfl (lv_at hl 0 rfl) ?_
      refine get7 B hP (by decide +kernel) 3 (by decide) mw_1030 rfl dX7_image_47 ?_
      refine lv_bipush (v := 7) hx hb dX7_image_50 (by decide) ?_
      refine aldf (n := 695) (j := 7) (v := 0) B hP (by decide +kernel) (by decide +kernel) rfl (by decide) (by decide) (by rw [e20]; exact up_get_ne (Or.inl (by decide)) ((congrFun (q18.1 1078 (by decide)) 7).trans ((congrFun (hM 1078 (by decide)) 7).trans (show r0 1078 7 = 0 by decide +kernel)))) dX7_image_52 ?_
      refine call_i (cVt (k := 1076) (av := [.int 0]) (rest := []) B hP hS (c_mtell l E ρ19 0) lk_RX7_68 (hrecv (ci := 7) B hP (hk_lt (c := 7) (by decide +kernel) (by decide)) (hcc7 _ _ (by decide +kernel)) rfl) rfl rfl hl.1 (Nat.le_of_ble_eq_true rfl) ⟨Nat.le_of_ble_eq_true rfl, Nat.le_of_ble_eq_true rfl⟩ ⟨Nat.le_of_ble_eq_true rfl, Nat.le_of_ble_eq_true rfl⟩ dX7_image_53) hS (fun r21 ρ22 H locs q23 hP hS => ?_)
      obtain rfl := q23
      exact ret_i B hr hlk hP hS dX7_image_56 (Or.inl ⟨hn, rfl⟩)
  · skip
    refine lv_if_ne (tgt := 21) hx hb dX7_image_12 (by decide) (fun c24 => absurd c24 (by decide)) (fun _ => ?_)
    refine lv_aload_n hx hb dX7_image_15 rfl (lv_at hl 0 rfl) ?_
    refine lv_iconst (v := (-1)) hx hb dX7_image_16 (by decide) ?_
    refine call_i (cVt (k := 1076) (av := [.int (-1)]) (rest := []) B hP hS (c_mrefuse l E ρ (-1) ⟨1, by decide, by decide⟩) lk_RX7_64 (hrecv (ci := 7) B hP (hk_lt (c := 7) (by decide +kernel) (by decide)) (hcc7 _ _ (by decide +kernel)) rfl) rfl rfl hl.1 (Nat.le_of_ble_eq_true rfl) ⟨Nat.le_of_ble_eq_true rfl, Nat.le_of_ble_eq_true rfl⟩ ⟨Nat.le_of_ble_eq_true rfl, Nat.le_of_ble_eq_true rfl⟩ dX7_image_17) hS (fun r25 ρ26 H locs q27 hP hS => ?_)
    obtain rfl := q27
    exact ret_i B hr hlk hP hS dX7_image_20 (Or.inr ⟨fun z => q3 z, rfl⟩)

set_option maxHeartbeats 4000000 in
set_option maxRecDepth 100000 in
theorem c_mback (l : Launch) (E : hE) (ρ : Nat → Nat → Int32) (a1 : Int32) (hM : MF ρ) : Met l yX7_back (.code yX7_back cX7_back 2 (some .int) :: gw_all) (rmk 5 200) (cPre E ρ [.ref (E.2.1 + 1076), .int a1]) (cI E (fun r _ => ((iR a1 0 1) ∧ r = -4) ∨ (¬ (iR a1 0 1) ∧ r = -1))) 0 0 (hA E) := by
  refine ent (own := RX7) (by decide) rfl (Nat.le_of_ble_eq_true rfl) ?_
  intro p e s m below meth c ls B hr hlk hl hP hS
  have hx := B.1.1
  have hb := B.1.2.1
  have hown := B.1.2.2.2.1
  have hts := B.1.2.2.2.2
  have hl : lv_has ls 2 [(0, .ref (E.2.1 + 1076)), (1, .int a1)] := hl
  refine lv_aload_n hx hb dX7_back_0 rfl (lv_at hl 0 rfl) ?_
  refine lv_iconst (v := 0) hx hb dX7_back_1 (by decide) ?_
  refine put7 B hP hS (by decide +kernel) 0 (by decide) mw_1027 rfl rfl rfl (fs7_0 E 1076 _ _) dX7_back_2 (fun H locs hP hS => ?_)
  rw [up_self ρ ((congrFun (hM 1076 (by decide)) 0).trans (show r0 1076 0 = 0 by decide +kernel))] at hP
  refine lv_iload_n hx hb dX7_back_5 rfl (lv_at hl 1 rfl) ?_
  refine lv_i2l hx hb dX7_back_6 rfl ?_
  refine lv_lconst (v := 0) hx hb dX7_back_7 (by decide) ?_
  refine lv_lconst (v := 1) hx hb dX7_back_8 (by decide) ?_
  refine call_i (cS (av := [.long a1.toInt64, .long 0, .long 1]) (rest := []) B hP hS (c_in l E ρ a1.toInt64 0 1 0 1 (by decide) (by decide)) lk_RX7_71 rfl rfl hl.1 (Nat.le_of_ble_eq_true rfl) ⟨Nat.le_of_ble_eq_true rfl, Nat.le_of_ble_eq_true rfl⟩ ⟨Nat.le_of_ble_eq_true rfl, Nat.le_of_ble_eq_true rfl⟩ dX7_back_9) hS (fun r1 ρ2 H locs q3 hP hS => ?_)
  obtain ⟨rfl, q3⟩ := q3
  rw [lR_i] at q3
  rcases q3 with ⟨rfl, q3⟩ | ⟨rfl, q3⟩
  · skip
    have hn := q3
    obtain ⟨j, hj, rfl⟩ := iR_ix (n := 2) hn (by decide) (by decide)
    rcases (show j = 0 ∨ j = 1 by omega) with rfl | rfl
    · skip
      refine lv_if_ne (tgt := 21) hx hb dX7_back_12 (by decide) (fun _ => ?_) (fun c4 => absurd c4 (by decide))
      refine lv_aload_n hx hb dX7_back_21 rfl (lv_at hl 0 rfl) ?_
      refine get7 B hP (by decide +kernel) 8 (by decide) mw_1035 rfl dX7_back_22 ?_
      refine lv_iload_n hx hb dX7_back_25 rfl (lv_at hl 1 rfl) ?_
      refine zldf (n := 2) (j := 0) (v := 0) B hP (by decide +kernel) (by decide +kernel) rfl (by decide) (by decide) ((congrFun (hM 1082 (by decide)) 0).trans (show r0 1082 0 = 0 by decide +kernel)) dX7_back_26 ?_
      refine lv_if_ne (tgt := 37) hx hb dX7_back_27 (by decide) (fun c5 => absurd c5 (by decide)) (fun _ => ?_)
      refine lv_aload_n hx hb dX7_back_30 rfl (lv_at hl 0 rfl) ?_
      refine lv_bipush (v := (-4)) hx hb dX7_back_31 (by decide) ?_
      refine call_i (cVt (k := 1076) (av := [.int (-4)]) (rest := []) B hP hS (c_mrefuse l E ρ (-4) ⟨4, by decide, by decide⟩) lk_RX7_64 (hrecv (ci := 7) B hP (hk_lt (c := 7) (by decide +kernel) (by decide)) (hcc7 _ _ (by decide +kernel)) rfl) rfl rfl hl.1 (Nat.le_of_ble_eq_true rfl) ⟨Nat.le_of_ble_eq_true rfl, Nat.le_of_ble_eq_true rfl⟩ ⟨Nat.le_of_ble_eq_true rfl, Nat.le_of_ble_eq_true rfl⟩ dX7_back_33) hS (fun r6 ρ7 H locs q8 hP hS => ?_)
      obtain rfl := q8
      exact ret_i B hr hlk hP hS dX7_back_36 (Or.inl ⟨hn, rfl⟩)
    · skip
      refine lv_if_ne (tgt := 21) hx hb dX7_back_12 (by decide) (fun _ => ?_) (fun c9 => absurd c9 (by decide))
      refine lv_aload_n hx hb dX7_back_21 rfl (lv_at hl 0 rfl) ?_
      refine get7 B hP (by decide +kernel) 8 (by decide) mw_1035 rfl dX7_back_22 ?_
      refine lv_iload_n hx hb dX7_back_25 rfl (lv_at hl 1 rfl) ?_
      refine zldf (n := 2) (j := 1) (v := 0) B hP (by decide +kernel) (by decide +kernel) rfl (by decide) (by decide) ((congrFun (hM 1082 (by decide)) 1).trans (show r0 1082 1 = 0 by decide +kernel)) dX7_back_26 ?_
      refine lv_if_ne (tgt := 37) hx hb dX7_back_27 (by decide) (fun c10 => absurd c10 (by decide)) (fun _ => ?_)
      refine lv_aload_n hx hb dX7_back_30 rfl (lv_at hl 0 rfl) ?_
      refine lv_bipush (v := (-4)) hx hb dX7_back_31 (by decide) ?_
      refine call_i (cVt (k := 1076) (av := [.int (-4)]) (rest := []) B hP hS (c_mrefuse l E ρ (-4) ⟨4, by decide, by decide⟩) lk_RX7_64 (hrecv (ci := 7) B hP (hk_lt (c := 7) (by decide +kernel) (by decide)) (hcc7 _ _ (by decide +kernel)) rfl) rfl rfl hl.1 (Nat.le_of_ble_eq_true rfl) ⟨Nat.le_of_ble_eq_true rfl, Nat.le_of_ble_eq_true rfl⟩ ⟨Nat.le_of_ble_eq_true rfl, Nat.le_of_ble_eq_true rfl⟩ dX7_back_33) hS (fun r11 ρ12 H locs q13 hP hS => ?_)
      obtain rfl := q13
      exact ret_i B hr hlk hP hS dX7_back_36 (Or.inl ⟨hn, rfl⟩)
  · skip
    refine lv_if_ne (tgt := 21) hx hb dX7_back_12 (by decide) (fun c14 => absurd c14 (by decide)) (fun _ => ?_)
    refine lv_aload_n hx hb dX7_back_15 rfl (lv_at hl 0 rfl) ?_
    refine lv_iconst (v := (-1)) hx hb dX7_back_16 (by decide) ?_
    refine call_i (cVt (k := 1076) (av := [.int (-1)]) (rest := []) B hP hS (c_mrefuse l E ρ (-1) ⟨1, by decide, by decide⟩) lk_RX7_64 (hrecv (ci := 7) B hP (hk_lt (c := 7) (by decide +kernel) (by decide)) (hcc7 _ _ (by decide +kernel)) rfl) rfl rfl hl.1 (Nat.le_of_ble_eq_true rfl) ⟨Nat.le_of_ble_eq_true rfl, Nat.le_of_ble_eq_true rfl⟩ ⟨Nat.le_of_ble_eq_true rfl, Nat.le_of_ble_eq_true rfl⟩ dX7_back_17) hS (fun r15 ρ16 H locs q17 hP hS => ?_)
    obtain rfl := q17
    exact ret_i B hr hlk hP hS dX7_back_20 (Or.inr ⟨fun z => q3 z, rfl⟩)

set_option maxHeartbeats 4000000 in
set_option maxRecDepth 100000 in
theorem c_mhop (l : Launch) (E : hE) (ρ : Nat → Nat → Int32) (a1 a2 a3 : Int32) (hM : MF ρ) : Met l yX7_hop (.code yX7_hop cX7_hop 4 (some .int) :: gw_all) (rmk 5 200) (cPre E ρ [.ref (E.2.1 + 1076), .int a1, .int a2, .int a3]) (cI E (fun r _ => r = (-1))) 0 0 (hA E) := by
  refine ent (own := RX7) (by decide) rfl (Nat.le_of_ble_eq_true rfl) ?_
  intro p e s m below meth c ls B hr hlk hl hP hS
  have hx := B.1.1
  have hb := B.1.2.1
  have hown := B.1.2.2.2.1
  have hts := B.1.2.2.2.2
  have hl : lv_has ls 4 [(0, .ref (E.2.1 + 1076)), (1, .int a1), (2, .int a2), (3, .int a3)] := hl
  refine lv_aload_n hx hb dX7_hop_0 rfl (lv_at hl 0 rfl) ?_
  refine lv_iconst (v := 0) hx hb dX7_hop_1 (by decide) ?_
  refine put7 B hP hS (by decide +kernel) 0 (by decide) mw_1027 rfl rfl rfl (fs7_0 E 1076 _ _) dX7_hop_2 (fun H locs hP hS => ?_)
  rw [up_self ρ ((congrFun (hM 1076 (by decide)) 0).trans (show r0 1076 0 = 0 by decide +kernel))] at hP
  refine lv_aload_n hx hb dX7_hop_5 rfl (lv_at hl 0 rfl) ?_
  refine lv_iload_n hx hb dX7_hop_6 rfl (lv_at hl 1 rfl) ?_
  refine call_i (cVt (k := 1076) (av := [.int a1]) (rest := []) B hP hS (c_isNet l E ρ a1 ⟨((congrFun (hM 1078 (by decide)) 42).trans (show r0 1078 42 = (-1) by decide +kernel)), ((congrFun (hM 1078 (by decide)) 368).trans (show r0 1078 368 = (-1) by decide +kernel))⟩) lk_RX7_78 (hrecv (ci := 7) B hP (hk_lt (c := 7) (by decide +kernel) (by decide)) (hcc7 _ _ (by decide +kernel)) rfl) rfl rfl hl.1 (Nat.le_of_ble_eq_true rfl) ⟨Nat.le_of_ble_eq_true rfl, Nat.le_of_ble_eq_true rfl⟩ ⟨Nat.le_of_ble_eq_true rfl, Nat.le_of_ble_eq_true rfl⟩ dX7_hop_7) hS (fun r1 ρ2 H locs q3 hP hS => ?_)
  obtain ⟨rfl, rfl⟩ := q3
  refine lv_if_eq (tgt := 39) hx hb dX7_hop_10 (by decide) (fun _ => ?_) (fun c4 => absurd c4 (by decide))
  refine lv_iconst (v := (-1)) hx hb dX7_hop_39 (by decide) ?_
  exact ret_i B hr hlk hP hS dX7_hop_40 (rfl)

set_option maxHeartbeats 4000000 in
set_option maxRecDepth 100000 in
theorem c_malike (l : Launch) (E : hE) (ρ : Nat → Nat → Int32) (a1 a2 a3 : Int32) (hM : MF ρ) : Met l yX7_alike (.code yX7_alike cX7_alike 8 (some .int) :: gw_all) (rmk 5 200) (cPre E ρ [.ref (E.2.1 + 1076), .int a1, .int a2, .int a3]) (cI E (fun r _ => r = (-1))) 0 0 (hA E) := by
  refine ent (own := RX7) (by decide) rfl (Nat.le_of_ble_eq_true rfl) ?_
  intro p e s m below meth c ls B hr hlk hl hP hS
  have hx := B.1.1
  have hb := B.1.2.1
  have hown := B.1.2.2.2.1
  have hts := B.1.2.2.2.2
  have hl : lv_has ls 8 [(0, .ref (E.2.1 + 1076)), (1, .int a1), (2, .int a2), (3, .int a3)] := hl
  refine lv_aload_n hx hb dX7_alike_0 rfl (lv_at hl 0 rfl) ?_
  refine lv_iconst (v := 0) hx hb dX7_alike_1 (by decide) ?_
  refine put7 B hP hS (by decide +kernel) 0 (by decide) mw_1027 rfl rfl rfl (fs7_0 E 1076 _ _) dX7_alike_2 (fun H locs hP hS => ?_)
  rw [up_self ρ ((congrFun (hM 1076 (by decide)) 0).trans (show r0 1076 0 = 0 by decide +kernel))] at hP
  refine lv_aload_n hx hb dX7_alike_5 rfl (lv_at hl 0 rfl) ?_
  refine lv_iload_n hx hb dX7_alike_6 rfl (lv_at hl 1 rfl) ?_
  refine lv_iload_n hx hb dX7_alike_7 rfl (lv_at hl 2 rfl) ?_
  refine call_i (cVt (k := 1076) (av := [.int a1, .int a2]) (rest := []) B hP hS (c_isLink l E ρ a1 a2 ⟨((congrFun (hM 1078 (by decide)) 42).trans (show r0 1078 42 = (-1) by decide +kernel)), ((congrFun (hM 1078 (by decide)) 368).trans (show r0 1078 368 = (-1) by decide +kernel))⟩) lk_RX7_106 (hrecv (ci := 7) B hP (hk_lt (c := 7) (by decide +kernel) (by decide)) (hcc7 _ _ (by decide +kernel)) rfl) rfl rfl hl.1 (Nat.le_of_ble_eq_true rfl) ⟨Nat.le_of_ble_eq_true rfl, Nat.le_of_ble_eq_true rfl⟩ ⟨Nat.le_of_ble_eq_true rfl, Nat.le_of_ble_eq_true rfl⟩ dX7_alike_8) hS (fun r1 ρ2 H locs q3 hP hS => ?_)
  obtain ⟨rfl, rfl⟩ := q3
  refine lv_if_eq (tgt := 26) hx hb dX7_alike_11 (by decide) (fun _ => ?_) (fun c4 => absurd c4 (by decide))
  refine lv_iconst (v := (-1)) hx hb dX7_alike_26 (by decide) ?_
  exact ret_i B hr hlk hP hS dX7_alike_27 (rfl)

set_option maxHeartbeats 4000000 in
set_option maxRecDepth 100000 in
theorem c_mmapOf (l : Launch) (E : hE) (ρ : Nat → Nat → Int32) (a1 a2 a3 : Int32) (hM : MF ρ) : Met l yX7_mapOf (.code yX7_mapOf cX7_mapOf 5 (some .int) :: gw_all) (rmk 5 200) (cPre E ρ [.ref (E.2.1 + 1076), .int a1, .int a2, .int a3]) (cI E (fun r _ => r = (-1))) 0 0 (hA E) := by
  refine ent (own := RX7) (by decide) rfl (Nat.le_of_ble_eq_true rfl) ?_
  intro p e s m below meth c ls B hr hlk hl hP hS
  have hx := B.1.1
  have hb := B.1.2.1
  have hown := B.1.2.2.2.1
  have hts := B.1.2.2.2.2
  have hl : lv_has ls 5 [(0, .ref (E.2.1 + 1076)), (1, .int a1), (2, .int a2), (3, .int a3)] := hl
  refine lv_aload_n hx hb dX7_mapOf_0 rfl (lv_at hl 0 rfl) ?_
  refine lv_iconst (v := 0) hx hb dX7_mapOf_1 (by decide) ?_
  refine put7 B hP hS (by decide +kernel) 0 (by decide) mw_1027 rfl rfl rfl (fs7_0 E 1076 _ _) dX7_mapOf_2 (fun H locs hP hS => ?_)
  rw [up_self ρ ((congrFun (hM 1076 (by decide)) 0).trans (show r0 1076 0 = 0 by decide +kernel))] at hP
  refine lv_aload_n hx hb dX7_mapOf_5 rfl (lv_at hl 0 rfl) ?_
  refine lv_iload_n hx hb dX7_mapOf_6 rfl (lv_at hl 1 rfl) ?_
  refine call_i (cVt (k := 1076) (av := [.int a1]) (rest := []) B hP hS (c_isNet l E ρ a1 ⟨((congrFun (hM 1078 (by decide)) 42).trans (show r0 1078 42 = (-1) by decide +kernel)), ((congrFun (hM 1078 (by decide)) 368).trans (show r0 1078 368 = (-1) by decide +kernel))⟩) lk_RX7_78 (hrecv (ci := 7) B hP (hk_lt (c := 7) (by decide +kernel) (by decide)) (hcc7 _ _ (by decide +kernel)) rfl) rfl rfl hl.1 (Nat.le_of_ble_eq_true rfl) ⟨Nat.le_of_ble_eq_true rfl, Nat.le_of_ble_eq_true rfl⟩ ⟨Nat.le_of_ble_eq_true rfl, Nat.le_of_ble_eq_true rfl⟩ dX7_mapOf_7) hS (fun r1 ρ2 H locs q3 hP hS => ?_)
  obtain ⟨rfl, rfl⟩ := q3
  refine lv_if_eq (tgt := 50) hx hb dX7_mapOf_10 (by decide) (fun _ => ?_) (fun c4 => absurd c4 (by decide))
  refine lv_iconst (v := (-1)) hx hb dX7_mapOf_50 (by decide) ?_
  exact ret_i B hr hlk hP hS dX7_mapOf_51 (rfl)

set_option maxHeartbeats 4000000 in
set_option maxRecDepth 100000 in
theorem c_mmeets (l : Launch) (E : hE) (ρ : Nat → Nat → Int32) (hM : MF ρ) : Met l yX7_meets (.code yX7_meets cX7_meets 2 (some .int) :: gw_all) (rmk 5 200) (cPre E ρ [.ref (E.2.1 + 1076)]) (cI E (fun r _ => r = (-1))) 0 0 (hA E) := by
  refine ent (own := RX7) (by decide) rfl (Nat.le_of_ble_eq_true rfl) ?_
  intro p e s m below meth c ls B hr hlk hl hP hS
  have hx := B.1.1
  have hb := B.1.2.1
  have hown := B.1.2.2.2.1
  have hts := B.1.2.2.2.2
  have hl : lv_has ls 2 [(0, .ref (E.2.1 + 1076))] := hl
  refine lv_aload_n hx hb dX7_meets_0 rfl (lv_at hl 0 rfl) ?_
  refine lv_iconst (v := 0) hx hb dX7_meets_1 (by decide) ?_
  refine put7 B hP hS (by decide +kernel) 0 (by decide) mw_1027 rfl rfl rfl (fs7_0 E 1076 _ _) dX7_meets_2 (fun H locs hP hS => ?_)
  rw [up_self ρ ((congrFun (hM 1076 (by decide)) 0).trans (show r0 1076 0 = 0 by decide +kernel))] at hP
  refine lv_aload_n hx hb dX7_meets_5 rfl (lv_at hl 0 rfl) ?_
  refine lv_iconst (v := 0) hx hb dX7_meets_6 (by decide) ?_
  refine call_i (cVt (k := 1076) (av := [.int 0]) (rest := []) B hP hS (c_isNet l E ρ 0 ⟨((congrFun (hM 1078 (by decide)) 42).trans (show r0 1078 42 = (-1) by decide +kernel)), ((congrFun (hM 1078 (by decide)) 368).trans (show r0 1078 368 = (-1) by decide +kernel))⟩) lk_RX7_78 (hrecv (ci := 7) B hP (hk_lt (c := 7) (by decide +kernel) (by decide)) (hcc7 _ _ (by decide +kernel)) rfl) rfl rfl hl.1 (Nat.le_of_ble_eq_true rfl) ⟨Nat.le_of_ble_eq_true rfl, Nat.le_of_ble_eq_true rfl⟩ ⟨Nat.le_of_ble_eq_true rfl, Nat.le_of_ble_eq_true rfl⟩ dX7_meets_7) hS (fun r1 ρ2 H locs q3 hP hS => ?_)
  obtain ⟨rfl, rfl⟩ := q3
  refine lv_if_eq (tgt := 21) hx hb dX7_meets_10 (by decide) (fun _ => ?_) (fun c4 => absurd c4 (by decide))
  refine lv_iconst (v := (-1)) hx hb dX7_meets_21 (by decide) ?_
  exact ret_i B hr hlk hP hS dX7_meets_22 (rfl)

set_option maxHeartbeats 4000000 in
set_option maxRecDepth 100000 in
theorem c_mused (l : Launch) (E : hE) (ρ : Nat → Nat → Int32) (a1 a2 a3 : Int32) (hM : MF ρ) : Met l yX7_used (.code yX7_used cX7_used 6 (some .int) :: gw_all) (rmk 5 200) (cPre E ρ [.ref (E.2.1 + 1076), .int a1, .int a2, .int a3]) (cI E (fun r _ => r = (-1))) 0 0 (hA E) := by
  refine ent (own := RX7) (by decide) rfl (Nat.le_of_ble_eq_true rfl) ?_
  intro p e s m below meth c ls B hr hlk hl hP hS
  have hx := B.1.1
  have hb := B.1.2.1
  have hown := B.1.2.2.2.1
  have hts := B.1.2.2.2.2
  have hl : lv_has ls 6 [(0, .ref (E.2.1 + 1076)), (1, .int a1), (2, .int a2), (3, .int a3)] := hl
  refine lv_aload_n hx hb dX7_used_0 rfl (lv_at hl 0 rfl) ?_
  refine lv_iconst (v := 0) hx hb dX7_used_1 (by decide) ?_
  refine put7 B hP hS (by decide +kernel) 0 (by decide) mw_1027 rfl rfl rfl (fs7_0 E 1076 _ _) dX7_used_2 (fun H locs hP hS => ?_)
  rw [up_self ρ ((congrFun (hM 1076 (by decide)) 0).trans (show r0 1076 0 = 0 by decide +kernel))] at hP
  refine lv_aload_n hx hb dX7_used_5 rfl (lv_at hl 0 rfl) ?_
  refine lv_iload_n hx hb dX7_used_6 rfl (lv_at hl 1 rfl) ?_
  refine call_i (cVt (k := 1076) (av := [.int a1]) (rest := []) B hP hS (c_isNet l E ρ a1 ⟨((congrFun (hM 1078 (by decide)) 42).trans (show r0 1078 42 = (-1) by decide +kernel)), ((congrFun (hM 1078 (by decide)) 368).trans (show r0 1078 368 = (-1) by decide +kernel))⟩) lk_RX7_78 (hrecv (ci := 7) B hP (hk_lt (c := 7) (by decide +kernel) (by decide)) (hcc7 _ _ (by decide +kernel)) rfl) rfl rfl hl.1 (Nat.le_of_ble_eq_true rfl) ⟨Nat.le_of_ble_eq_true rfl, Nat.le_of_ble_eq_true rfl⟩ ⟨Nat.le_of_ble_eq_true rfl, Nat.le_of_ble_eq_true rfl⟩ dX7_used_7) hS (fun r1 ρ2 H locs q3 hP hS => ?_)
  obtain ⟨rfl, rfl⟩ := q3
  refine lv_if_eq (tgt := 37) hx hb dX7_used_10 (by decide) (fun _ => ?_) (fun c4 => absurd c4 (by decide))
  refine lv_iconst (v := (-1)) hx hb dX7_used_37 (by decide) ?_
  exact ret_i B hr hlk hP hS dX7_used_38 (rfl)

set_option maxHeartbeats 4000000 in
set_option maxRecDepth 100000 in
theorem c_mbad (l : Launch) (E : hE) (ρ : Nat → Nat → Int32) (a1 a2 : Int32) (hM : MF ρ) : Met l yX7_bad (.code yX7_bad cX7_bad 3 (some .int) :: gw_all) (rmk 5 200) (cPre E ρ [.ref (E.2.1 + 1076), .int a1, .int a2]) (cI E (fun r _ => r = (-1))) 0 0 (hA E) := by
  refine ent (own := RX7) (by decide) rfl (Nat.le_of_ble_eq_true rfl) ?_
  intro p e s m below meth c ls B hr hlk hl hP hS
  have hx := B.1.1
  have hb := B.1.2.1
  have hown := B.1.2.2.2.1
  have hts := B.1.2.2.2.2
  have hl : lv_has ls 3 [(0, .ref (E.2.1 + 1076)), (1, .int a1), (2, .int a2)] := hl
  refine lv_aload_n hx hb dX7_bad_0 rfl (lv_at hl 0 rfl) ?_
  refine lv_iconst (v := 0) hx hb dX7_bad_1 (by decide) ?_
  refine put7 B hP hS (by decide +kernel) 0 (by decide) mw_1027 rfl rfl rfl (fs7_0 E 1076 _ _) dX7_bad_2 (fun H locs hP hS => ?_)
  rw [up_self ρ ((congrFun (hM 1076 (by decide)) 0).trans (show r0 1076 0 = 0 by decide +kernel))] at hP
  refine lv_aload_n hx hb dX7_bad_5 rfl (lv_at hl 0 rfl) ?_
  refine lv_iload_n hx hb dX7_bad_6 rfl (lv_at hl 1 rfl) ?_
  refine call_i (cVt (k := 1076) (av := [.int a1]) (rest := []) B hP hS (c_isNet l E ρ a1 ⟨((congrFun (hM 1078 (by decide)) 42).trans (show r0 1078 42 = (-1) by decide +kernel)), ((congrFun (hM 1078 (by decide)) 368).trans (show r0 1078 368 = (-1) by decide +kernel))⟩) lk_RX7_78 (hrecv (ci := 7) B hP (hk_lt (c := 7) (by decide +kernel) (by decide)) (hcc7 _ _ (by decide +kernel)) rfl) rfl rfl hl.1 (Nat.le_of_ble_eq_true rfl) ⟨Nat.le_of_ble_eq_true rfl, Nat.le_of_ble_eq_true rfl⟩ ⟨Nat.le_of_ble_eq_true rfl, Nat.le_of_ble_eq_true rfl⟩ dX7_bad_7) hS (fun r1 ρ2 H locs q3 hP hS => ?_)
  obtain ⟨rfl, rfl⟩ := q3
  refine lv_if_eq (tgt := 34) hx hb dX7_bad_10 (by decide) (fun _ => ?_) (fun c4 => absurd c4 (by decide))
  refine lv_iconst (v := (-1)) hx hb dX7_bad_34 (by decide) ?_
  exact ret_i B hr hlk hP hS dX7_bad_35 (rfl)

set_option maxHeartbeats 4000000 in
set_option maxRecDepth 100000 in
theorem c_msent (l : Launch) (E : hE) (ρ : Nat → Nat → Int32) (a1 a2 a3 : Int32) (hM : MF ρ) : Met l yX7_sent (.code yX7_sent cX7_sent 4 (some .int) :: gw_all) (rmk 5 200) (cPre E ρ [.ref (E.2.1 + 1076), .int a1, .int a2, .int a3]) (cI E (fun r _ => r = (-1))) 0 0 (hA E) := by
  refine ent (own := RX7) (by decide) rfl (Nat.le_of_ble_eq_true rfl) ?_
  intro p e s m below meth c ls B hr hlk hl hP hS
  have hx := B.1.1
  have hb := B.1.2.1
  have hown := B.1.2.2.2.1
  have hts := B.1.2.2.2.2
  have hl : lv_has ls 4 [(0, .ref (E.2.1 + 1076)), (1, .int a1), (2, .int a2), (3, .int a3)] := hl
  refine lv_aload_n hx hb dX7_sent_0 rfl (lv_at hl 0 rfl) ?_
  refine lv_iconst (v := 0) hx hb dX7_sent_1 (by decide) ?_
  refine put7 B hP hS (by decide +kernel) 0 (by decide) mw_1027 rfl rfl rfl (fs7_0 E 1076 _ _) dX7_sent_2 (fun H locs hP hS => ?_)
  rw [up_self ρ ((congrFun (hM 1076 (by decide)) 0).trans (show r0 1076 0 = 0 by decide +kernel))] at hP
  refine lv_aload_n hx hb dX7_sent_5 rfl (lv_at hl 0 rfl) ?_
  refine lv_iload_n hx hb dX7_sent_6 rfl (lv_at hl 1 rfl) ?_
  refine call_i (cVt (k := 1076) (av := [.int a1]) (rest := []) B hP hS (c_isNet l E ρ a1 ⟨((congrFun (hM 1078 (by decide)) 42).trans (show r0 1078 42 = (-1) by decide +kernel)), ((congrFun (hM 1078 (by decide)) 368).trans (show r0 1078 368 = (-1) by decide +kernel))⟩) lk_RX7_78 (hrecv (ci := 7) B hP (hk_lt (c := 7) (by decide +kernel) (by decide)) (hcc7 _ _ (by decide +kernel)) rfl) rfl rfl hl.1 (Nat.le_of_ble_eq_true rfl) ⟨Nat.le_of_ble_eq_true rfl, Nat.le_of_ble_eq_true rfl⟩ ⟨Nat.le_of_ble_eq_true rfl, Nat.le_of_ble_eq_true rfl⟩ dX7_sent_7) hS (fun r1 ρ2 H locs q3 hP hS => ?_)
  obtain ⟨rfl, rfl⟩ := q3
  refine lv_if_eq (tgt := 35) hx hb dX7_sent_10 (by decide) (fun _ => ?_) (fun c4 => absurd c4 (by decide))
  refine lv_iconst (v := (-1)) hx hb dX7_sent_35 (by decide) ?_
  exact ret_i B hr hlk hP hS dX7_sent_36 (rfl)

set_option maxHeartbeats 4000000 in
set_option maxRecDepth 100000 in
theorem c_mlink (l : Launch) (E : hE) (ρ : Nat → Nat → Int32) (a1 a2 a3 : Int32) (hM : MF ρ) : Met l yX7_link (.code yX7_link cX7_link 5 (some .int) :: gw_all) (rmk 5 200) (cPre E ρ [.ref (E.2.1 + 1076), .int a1, .int a2, .int a3]) (cI E (fun r _ => r = (-1))) 0 0 (hA E) := by
  refine ent (own := RX7) (by decide) rfl (Nat.le_of_ble_eq_true rfl) ?_
  intro p e s m below meth c ls B hr hlk hl hP hS
  have hx := B.1.1
  have hb := B.1.2.1
  have hown := B.1.2.2.2.1
  have hts := B.1.2.2.2.2
  have hl : lv_has ls 5 [(0, .ref (E.2.1 + 1076)), (1, .int a1), (2, .int a2), (3, .int a3)] := hl
  refine lv_aload_n hx hb dX7_link_0 rfl (lv_at hl 0 rfl) ?_
  refine lv_iconst (v := 0) hx hb dX7_link_1 (by decide) ?_
  refine put7 B hP hS (by decide +kernel) 0 (by decide) mw_1027 rfl rfl rfl (fs7_0 E 1076 _ _) dX7_link_2 (fun H locs hP hS => ?_)
  rw [up_self ρ ((congrFun (hM 1076 (by decide)) 0).trans (show r0 1076 0 = 0 by decide +kernel))] at hP
  refine lv_aload_n hx hb dX7_link_5 rfl (lv_at hl 0 rfl) ?_
  refine lv_iload_n hx hb dX7_link_6 rfl (lv_at hl 1 rfl) ?_
  refine lv_iload_n hx hb dX7_link_7 rfl (lv_at hl 2 rfl) ?_
  refine call_i (cVt (k := 1076) (av := [.int a1, .int a2]) (rest := []) B hP hS (c_isLink l E ρ a1 a2 ⟨((congrFun (hM 1078 (by decide)) 42).trans (show r0 1078 42 = (-1) by decide +kernel)), ((congrFun (hM 1078 (by decide)) 368).trans (show r0 1078 368 = (-1) by decide +kernel))⟩) lk_RX7_106 (hrecv (ci := 7) B hP (hk_lt (c := 7) (by decide +kernel) (by decide)) (hcc7 _ _ (by decide +kernel)) rfl) rfl rfl hl.1 (Nat.le_of_ble_eq_true rfl) ⟨Nat.le_of_ble_eq_true rfl, Nat.le_of_ble_eq_true rfl⟩ ⟨Nat.le_of_ble_eq_true rfl, Nat.le_of_ble_eq_true rfl⟩ dX7_link_8) hS (fun r1 ρ2 H locs q3 hP hS => ?_)
  obtain ⟨rfl, rfl⟩ := q3
  refine lv_if_ne (tgt := 16) hx hb dX7_link_11 (by decide) (fun c4 => absurd c4 (by decide)) (fun _ => ?_)
  refine lv_iconst (v := (-1)) hx hb dX7_link_14 (by decide) ?_
  exact ret_i B hr hlk hP hS dX7_link_15 (rfl)

set_option maxHeartbeats 4000000 in
set_option maxRecDepth 100000 in
theorem c_mreserved (l : Launch) (E : hE) (ρ : Nat → Nat → Int32) (a1 a2 a3 : Int32) (hM : MF ρ) : Met l yX7_reserved (.code yX7_reserved cX7_reserved 4 (some .int) :: gw_all) (rmk 5 200) (cPre E ρ [.ref (E.2.1 + 1076), .int a1, .int a2, .int a3]) (cI E (fun r _ => r = (-1))) 0 0 (hA E) := by
  refine ent (own := RX7) (by decide) rfl (Nat.le_of_ble_eq_true rfl) ?_
  intro p e s m below meth c ls B hr hlk hl hP hS
  have hx := B.1.1
  have hb := B.1.2.1
  have hown := B.1.2.2.2.1
  have hts := B.1.2.2.2.2
  have hl : lv_has ls 4 [(0, .ref (E.2.1 + 1076)), (1, .int a1), (2, .int a2), (3, .int a3)] := hl
  refine lv_aload_n hx hb dX7_reserved_0 rfl (lv_at hl 0 rfl) ?_
  refine lv_iconst (v := 0) hx hb dX7_reserved_1 (by decide) ?_
  refine put7 B hP hS (by decide +kernel) 0 (by decide) mw_1027 rfl rfl rfl (fs7_0 E 1076 _ _) dX7_reserved_2 (fun H locs hP hS => ?_)
  rw [up_self ρ ((congrFun (hM 1076 (by decide)) 0).trans (show r0 1076 0 = 0 by decide +kernel))] at hP
  refine lv_aload_n hx hb dX7_reserved_5 rfl (lv_at hl 0 rfl) ?_
  refine lv_iload_n hx hb dX7_reserved_6 rfl (lv_at hl 1 rfl) ?_
  refine lv_iload_n hx hb dX7_reserved_7 rfl (lv_at hl 2 rfl) ?_
  refine call_i (cVt (k := 1076) (av := [.int a1, .int a2]) (rest := []) B hP hS (c_isLink l E ρ a1 a2 ⟨((congrFun (hM 1078 (by decide)) 42).trans (show r0 1078 42 = (-1) by decide +kernel)), ((congrFun (hM 1078 (by decide)) 368).trans (show r0 1078 368 = (-1) by decide +kernel))⟩) lk_RX7_106 (hrecv (ci := 7) B hP (hk_lt (c := 7) (by decide +kernel) (by decide)) (hcc7 _ _ (by decide +kernel)) rfl) rfl rfl hl.1 (Nat.le_of_ble_eq_true rfl) ⟨Nat.le_of_ble_eq_true rfl, Nat.le_of_ble_eq_true rfl⟩ ⟨Nat.le_of_ble_eq_true rfl, Nat.le_of_ble_eq_true rfl⟩ dX7_reserved_8) hS (fun r1 ρ2 H locs q3 hP hS => ?_)
  obtain ⟨rfl, rfl⟩ := q3
  refine lv_if_eq (tgt := 60) hx hb dX7_reserved_11 (by decide) (fun _ => ?_) (fun c4 => absurd c4 (by decide))
  refine lv_iconst (v := (-1)) hx hb dX7_reserved_60 (by decide) ?_
  exact ret_i B hr hlk hP hS dX7_reserved_61 (rfl)

set_option maxHeartbeats 4000000 in
set_option maxRecDepth 100000 in
theorem c_modds (l : Launch) (E : hE) (ρ : Nat → Nat → Int32) (a1 a2 a3 a4 : Int32) (hM : MF ρ) : Met l yX7_odds (.code yX7_odds cX7_odds 8 (some .int) :: gw_all) (rmk 5 200) (cPre E ρ [.ref (E.2.1 + 1076), .int a1, .int a2, .int a3, .int a4]) (cI E (fun r _ => r = (-1))) 0 0 (hA E) := by
  refine ent (own := RX7) (by decide) rfl (Nat.le_of_ble_eq_true rfl) ?_
  intro p e s m below meth c ls B hr hlk hl hP hS
  have hx := B.1.1
  have hb := B.1.2.1
  have hown := B.1.2.2.2.1
  have hts := B.1.2.2.2.2
  have hl : lv_has ls 8 [(0, .ref (E.2.1 + 1076)), (1, .int a1), (2, .int a2), (3, .int a3), (4, .int a4)] := hl
  refine lv_aload_n hx hb dX7_odds_0 rfl (lv_at hl 0 rfl) ?_
  refine lv_iconst (v := 0) hx hb dX7_odds_1 (by decide) ?_
  refine put7 B hP hS (by decide +kernel) 0 (by decide) mw_1027 rfl rfl rfl (fs7_0 E 1076 _ _) dX7_odds_2 (fun H locs hP hS => ?_)
  rw [up_self ρ ((congrFun (hM 1076 (by decide)) 0).trans (show r0 1076 0 = 0 by decide +kernel))] at hP
  refine lv_aload_n hx hb dX7_odds_5 rfl (lv_at hl 0 rfl) ?_
  refine lv_iload_n hx hb dX7_odds_6 rfl (lv_at hl 1 rfl) ?_
  refine lv_iload_n hx hb dX7_odds_7 rfl (lv_at hl 2 rfl) ?_
  refine call_i (cVt (k := 1076) (av := [.int a1, .int a2]) (rest := []) B hP hS (c_isLink l E ρ a1 a2 ⟨((congrFun (hM 1078 (by decide)) 42).trans (show r0 1078 42 = (-1) by decide +kernel)), ((congrFun (hM 1078 (by decide)) 368).trans (show r0 1078 368 = (-1) by decide +kernel))⟩) lk_RX7_106 (hrecv (ci := 7) B hP (hk_lt (c := 7) (by decide +kernel) (by decide)) (hcc7 _ _ (by decide +kernel)) rfl) rfl rfl hl.1 (Nat.le_of_ble_eq_true rfl) ⟨Nat.le_of_ble_eq_true rfl, Nat.le_of_ble_eq_true rfl⟩ ⟨Nat.le_of_ble_eq_true rfl, Nat.le_of_ble_eq_true rfl⟩ dX7_odds_8) hS (fun r1 ρ2 H locs q3 hP hS => ?_)
  obtain ⟨rfl, rfl⟩ := q3
  refine lv_if_eq (tgt := 37) hx hb dX7_odds_11 (by decide) (fun _ => ?_) (fun c4 => absurd c4 (by decide))
  refine lv_iconst (v := (-1)) hx hb dX7_odds_37 (by decide) ?_
  exact ret_i B hr hlk hP hS dX7_odds_38 (rfl)

theorem lk_RX7_257 : LkV RX7 257 RX7 yX7_areBoth cX7_areBoth 2 (some .boolean) 1 := ⟨⟨mw_1394, mw_1396, mw_42, mw_59, mw_1397⟩, by decide +kernel⟩
set_option maxHeartbeats 4000000 in
set_option maxRecDepth 100000 in
theorem c_mclashes (l : Launch) (E : hE) (ρ : Nat → Nat → Int32) (a1 : Int32) (hM : MF ρ) : Met l yX7_clashes (.code yX7_clashes cX7_clashes 2 (some .int) :: gw_all) (rmk 5 200) (cPre E ρ [.ref (E.2.1 + 1076), .int a1]) (cI E (fun r _ => r = (-1))) 0 0 (hA E) := by
  refine ent (own := RX7) (by decide) rfl (Nat.le_of_ble_eq_true rfl) ?_
  intro p e s m below meth c ls B hr hlk hl hP hS
  have hx := B.1.1
  have hb := B.1.2.1
  have hown := B.1.2.2.2.1
  have hts := B.1.2.2.2.2
  have hl : lv_has ls 2 [(0, .ref (E.2.1 + 1076)), (1, .int a1)] := hl
  refine lv_aload_n hx hb dX7_clashes_0 rfl (lv_at hl 0 rfl) ?_
  refine lv_iconst (v := 0) hx hb dX7_clashes_1 (by decide) ?_
  refine put7 B hP hS (by decide +kernel) 0 (by decide) mw_1027 rfl rfl rfl (fs7_0 E 1076 _ _) dX7_clashes_2 (fun H locs hP hS => ?_)
  rw [up_self ρ ((congrFun (hM 1076 (by decide)) 0).trans (show r0 1076 0 = 0 by decide +kernel))] at hP
  refine lv_aload_n hx hb dX7_clashes_5 rfl (lv_at hl 0 rfl) ?_
  refine lv_iload_n hx hb dX7_clashes_6 rfl (lv_at hl 1 rfl) ?_
  refine call_i (cVt (k := 1076) (av := [.int a1]) (rest := []) B hP hS (c_areBoth l E ρ a1 ⟨((congrFun (hM 1078 (by decide)) 42).trans (show r0 1078 42 = (-1) by decide +kernel)), ((congrFun (hM 1078 (by decide)) 368).trans (show r0 1078 368 = (-1) by decide +kernel))⟩) lk_RX7_257 (hrecv (ci := 7) B hP (hk_lt (c := 7) (by decide +kernel) (by decide)) (hcc7 _ _ (by decide +kernel)) rfl) rfl rfl hl.1 (Nat.le_of_ble_eq_true rfl) ⟨Nat.le_of_ble_eq_true rfl, Nat.le_of_ble_eq_true rfl⟩ ⟨Nat.le_of_ble_eq_true rfl, Nat.le_of_ble_eq_true rfl⟩ dX7_clashes_7) hS (fun r1 ρ2 H locs q3 hP hS => ?_)
  obtain ⟨rfl, rfl⟩ := q3
  refine lv_if_eq (tgt := 21) hx hb dX7_clashes_10 (by decide) (fun _ => ?_) (fun c4 => absurd c4 (by decide))
  refine lv_iconst (v := (-1)) hx hb dX7_clashes_21 (by decide) ?_
  exact ret_i B hr hlk hP hS dX7_clashes_22 (rfl)

set_option maxHeartbeats 4000000 in
set_option maxRecDepth 100000 in
theorem c_mbestOffset (l : Launch) (E : hE) (ρ : Nat → Nat → Int32) (a1 : Int32) (hM : MF ρ) : Met l yX7_bestOffset (.code yX7_bestOffset cX7_bestOffset 8 (some .int) :: gw_all) (rmk 5 200) (cPre E ρ [.ref (E.2.1 + 1076), .int a1]) (cI E (fun r _ => r = (-1))) 0 0 (hA E) := by
  refine ent (own := RX7) (by decide) rfl (Nat.le_of_ble_eq_true rfl) ?_
  intro p e s m below meth c ls B hr hlk hl hP hS
  have hx := B.1.1
  have hb := B.1.2.1
  have hown := B.1.2.2.2.1
  have hts := B.1.2.2.2.2
  have hl : lv_has ls 8 [(0, .ref (E.2.1 + 1076)), (1, .int a1)] := hl
  refine lv_aload_n hx hb dX7_bestOffset_0 rfl (lv_at hl 0 rfl) ?_
  refine lv_iconst (v := 0) hx hb dX7_bestOffset_1 (by decide) ?_
  refine put7 B hP hS (by decide +kernel) 0 (by decide) mw_1027 rfl rfl rfl (fs7_0 E 1076 _ _) dX7_bestOffset_2 (fun H locs hP hS => ?_)
  rw [up_self ρ ((congrFun (hM 1076 (by decide)) 0).trans (show r0 1076 0 = 0 by decide +kernel))] at hP
  refine lv_aload_n hx hb dX7_bestOffset_5 rfl (lv_at hl 0 rfl) ?_
  refine lv_iload_n hx hb dX7_bestOffset_6 rfl (lv_at hl 1 rfl) ?_
  refine call_i (cVt (k := 1076) (av := [.int a1]) (rest := []) B hP hS (c_areBoth l E ρ a1 ⟨((congrFun (hM 1078 (by decide)) 42).trans (show r0 1078 42 = (-1) by decide +kernel)), ((congrFun (hM 1078 (by decide)) 368).trans (show r0 1078 368 = (-1) by decide +kernel))⟩) lk_RX7_257 (hrecv (ci := 7) B hP (hk_lt (c := 7) (by decide +kernel) (by decide)) (hcc7 _ _ (by decide +kernel)) rfl) rfl rfl hl.1 (Nat.le_of_ble_eq_true rfl) ⟨Nat.le_of_ble_eq_true rfl, Nat.le_of_ble_eq_true rfl⟩ ⟨Nat.le_of_ble_eq_true rfl, Nat.le_of_ble_eq_true rfl⟩ dX7_bestOffset_7) hS (fun r1 ρ2 H locs q3 hP hS => ?_)
  obtain ⟨rfl, rfl⟩ := q3
  refine lv_if_ne (tgt := 15) hx hb dX7_bestOffset_10 (by decide) (fun c4 => absurd c4 (by decide)) (fun _ => ?_)
  refine lv_iconst (v := (-1)) hx hb dX7_bestOffset_13 (by decide) ?_
  exact ret_i B hr hlk hP hS dX7_bestOffset_14 (rfl)

set_option maxHeartbeats 4000000 in
set_option maxRecDepth 100000 in
theorem c_mdrain (l : Launch) (E : hE) (ρ : Nat → Nat → Int32) (a1 a2 : Int32) (hM : MF ρ) : Met l yX7_drain (.code yX7_drain cX7_drain 5 (some .int) :: gw_all) (rmk 5 200) (cPre E ρ [.ref (E.2.1 + 1076), .int a1, .int a2]) (cI E (fun r _ => r = (-1))) 0 0 (hA E) := by
  refine ent (own := RX7) (by decide) rfl (Nat.le_of_ble_eq_true rfl) ?_
  intro p e s m below meth c ls B hr hlk hl hP hS
  have hx := B.1.1
  have hb := B.1.2.1
  have hown := B.1.2.2.2.1
  have hts := B.1.2.2.2.2
  have hl : lv_has ls 5 [(0, .ref (E.2.1 + 1076)), (1, .int a1), (2, .int a2)] := hl
  refine lv_aload_n hx hb dX7_drain_0 rfl (lv_at hl 0 rfl) ?_
  refine lv_iconst (v := 0) hx hb dX7_drain_1 (by decide) ?_
  refine put7 B hP hS (by decide +kernel) 0 (by decide) mw_1027 rfl rfl rfl (fs7_0 E 1076 _ _) dX7_drain_2 (fun H locs hP hS => ?_)
  rw [up_self ρ ((congrFun (hM 1076 (by decide)) 0).trans (show r0 1076 0 = 0 by decide +kernel))] at hP
  refine lv_aload_n hx hb dX7_drain_5 rfl (lv_at hl 0 rfl) ?_
  refine lv_iload_n hx hb dX7_drain_6 rfl (lv_at hl 1 rfl) ?_
  refine lv_iload_n hx hb dX7_drain_7 rfl (lv_at hl 2 rfl) ?_
  refine call_i (cVt (k := 1076) (av := [.int a1, .int a2]) (rest := []) B hP hS (c_isLink l E ρ a1 a2 ⟨((congrFun (hM 1078 (by decide)) 42).trans (show r0 1078 42 = (-1) by decide +kernel)), ((congrFun (hM 1078 (by decide)) 368).trans (show r0 1078 368 = (-1) by decide +kernel))⟩) lk_RX7_106 (hrecv (ci := 7) B hP (hk_lt (c := 7) (by decide +kernel) (by decide)) (hcc7 _ _ (by decide +kernel)) rfl) rfl rfl hl.1 (Nat.le_of_ble_eq_true rfl) ⟨Nat.le_of_ble_eq_true rfl, Nat.le_of_ble_eq_true rfl⟩ ⟨Nat.le_of_ble_eq_true rfl, Nat.le_of_ble_eq_true rfl⟩ dX7_drain_8) hS (fun r1 ρ2 H locs q3 hP hS => ?_)
  obtain ⟨rfl, rfl⟩ := q3
  refine lv_if_ne (tgt := 16) hx hb dX7_drain_11 (by decide) (fun c4 => absurd c4 (by decide)) (fun _ => ?_)
  refine lv_iconst (v := (-1)) hx hb dX7_drain_14 (by decide) ?_
  exact ret_i B hr hlk hP hS dX7_drain_15 (rfl)

set_option maxHeartbeats 4000000 in
set_option maxRecDepth 100000 in
theorem c_mready (l : Launch) (E : hE) (ρ : Nat → Nat → Int32) (a1 a2 : Int32) (hM : MF ρ) : Met l yX7_ready (.code yX7_ready cX7_ready 5 (some .int) :: gw_all) (rmk 5 200) (cPre E ρ [.ref (E.2.1 + 1076), .int a1, .int a2]) (cI E (fun r _ => r = (-1))) 0 0 (hA E) := by
  refine ent (own := RX7) (by decide) rfl (Nat.le_of_ble_eq_true rfl) ?_
  intro p e s m below meth c ls B hr hlk hl hP hS
  have hx := B.1.1
  have hb := B.1.2.1
  have hown := B.1.2.2.2.1
  have hts := B.1.2.2.2.2
  have hl : lv_has ls 5 [(0, .ref (E.2.1 + 1076)), (1, .int a1), (2, .int a2)] := hl
  refine lv_aload_n hx hb dX7_ready_0 rfl (lv_at hl 0 rfl) ?_
  refine lv_iconst (v := 0) hx hb dX7_ready_1 (by decide) ?_
  refine put7 B hP hS (by decide +kernel) 0 (by decide) mw_1027 rfl rfl rfl (fs7_0 E 1076 _ _) dX7_ready_2 (fun H locs hP hS => ?_)
  rw [up_self ρ ((congrFun (hM 1076 (by decide)) 0).trans (show r0 1076 0 = 0 by decide +kernel))] at hP
  refine lv_aload_n hx hb dX7_ready_5 rfl (lv_at hl 0 rfl) ?_
  refine lv_iload_n hx hb dX7_ready_6 rfl (lv_at hl 1 rfl) ?_
  refine lv_iload_n hx hb dX7_ready_7 rfl (lv_at hl 2 rfl) ?_
  refine call_i (cVt (k := 1076) (av := [.int a1, .int a2]) (rest := []) B hP hS (c_isLink l E ρ a1 a2 ⟨((congrFun (hM 1078 (by decide)) 42).trans (show r0 1078 42 = (-1) by decide +kernel)), ((congrFun (hM 1078 (by decide)) 368).trans (show r0 1078 368 = (-1) by decide +kernel))⟩) lk_RX7_106 (hrecv (ci := 7) B hP (hk_lt (c := 7) (by decide +kernel) (by decide)) (hcc7 _ _ (by decide +kernel)) rfl) rfl rfl hl.1 (Nat.le_of_ble_eq_true rfl) ⟨Nat.le_of_ble_eq_true rfl, Nat.le_of_ble_eq_true rfl⟩ ⟨Nat.le_of_ble_eq_true rfl, Nat.le_of_ble_eq_true rfl⟩ dX7_ready_8) hS (fun r1 ρ2 H locs q3 hP hS => ?_)
  obtain ⟨rfl, rfl⟩ := q3
  refine lv_if_ne (tgt := 16) hx hb dX7_ready_11 (by decide) (fun c4 => absurd c4 (by decide)) (fun _ => ?_)
  refine lv_iconst (v := (-1)) hx hb dX7_ready_14 (by decide) ?_
  exact ret_i B hr hlk hP hS dX7_ready_15 (rfl)

set_option maxHeartbeats 4000000 in
set_option maxRecDepth 100000 in
theorem c_mbothReady (l : Launch) (E : hE) (ρ : Nat → Nat → Int32) (a1 a2 a3 a4 : Int32) (hM : MF ρ) : Met l yX7_bothReady (.code yX7_bothReady cX7_bothReady 8 (some .int) :: gw_all) (rmk 5 200) (cPre E ρ [.ref (E.2.1 + 1076), .int a1, .int a2, .int a3, .int a4]) (cI E (fun r _ => r = (-1))) 0 0 (hA E) := by
  refine ent (own := RX7) (by decide) rfl (Nat.le_of_ble_eq_true rfl) ?_
  intro p e s m below meth c ls B hr hlk hl hP hS
  have hx := B.1.1
  have hb := B.1.2.1
  have hown := B.1.2.2.2.1
  have hts := B.1.2.2.2.2
  have hl : lv_has ls 8 [(0, .ref (E.2.1 + 1076)), (1, .int a1), (2, .int a2), (3, .int a3), (4, .int a4)] := hl
  refine lv_aload_n hx hb dX7_bothReady_0 rfl (lv_at hl 0 rfl) ?_
  refine lv_iconst (v := 0) hx hb dX7_bothReady_1 (by decide) ?_
  refine put7 B hP hS (by decide +kernel) 0 (by decide) mw_1027 rfl rfl rfl (fs7_0 E 1076 _ _) dX7_bothReady_2 (fun H locs hP hS => ?_)
  rw [up_self ρ ((congrFun (hM 1076 (by decide)) 0).trans (show r0 1076 0 = 0 by decide +kernel))] at hP
  refine lv_aload_n hx hb dX7_bothReady_5 rfl (lv_at hl 0 rfl) ?_
  refine lv_iload_n hx hb dX7_bothReady_6 rfl (lv_at hl 1 rfl) ?_
  refine lv_iload_n hx hb dX7_bothReady_7 rfl (lv_at hl 2 rfl) ?_
  refine call_i (cVt (k := 1076) (av := [.int a1, .int a2]) (rest := []) B hP hS (c_isLink l E ρ a1 a2 ⟨((congrFun (hM 1078 (by decide)) 42).trans (show r0 1078 42 = (-1) by decide +kernel)), ((congrFun (hM 1078 (by decide)) 368).trans (show r0 1078 368 = (-1) by decide +kernel))⟩) lk_RX7_106 (hrecv (ci := 7) B hP (hk_lt (c := 7) (by decide +kernel) (by decide)) (hcc7 _ _ (by decide +kernel)) rfl) rfl rfl hl.1 (Nat.le_of_ble_eq_true rfl) ⟨Nat.le_of_ble_eq_true rfl, Nat.le_of_ble_eq_true rfl⟩ ⟨Nat.le_of_ble_eq_true rfl, Nat.le_of_ble_eq_true rfl⟩ dX7_bothReady_8) hS (fun r1 ρ2 H locs q3 hP hS => ?_)
  obtain ⟨rfl, rfl⟩ := q3
  refine lv_if_eq (tgt := 36) hx hb dX7_bothReady_11 (by decide) (fun _ => ?_) (fun c4 => absurd c4 (by decide))
  refine lv_iconst (v := (-1)) hx hb dX7_bothReady_36 (by decide) ?_
  exact ret_i B hr hlk hP hS dX7_bothReady_37 (rfl)

set_option maxHeartbeats 4000000 in
set_option maxRecDepth 100000 in
theorem c_mahead (l : Launch) (E : hE) (ρ : Nat → Nat → Int32) (a1 a2 : Int32) (hM : MF ρ) : Met l yX7_ahead (.code yX7_ahead cX7_ahead 3 (some .int) :: gw_all) (rmk 5 200) (cPre E ρ [.ref (E.2.1 + 1076), .int a1, .int a2]) (cI E (fun r _ => r = (-1))) 0 0 (hA E) := by
  refine ent (own := RX7) (by decide) rfl (Nat.le_of_ble_eq_true rfl) ?_
  intro p e s m below meth c ls B hr hlk hl hP hS
  have hx := B.1.1
  have hb := B.1.2.1
  have hown := B.1.2.2.2.1
  have hts := B.1.2.2.2.2
  have hl : lv_has ls 3 [(0, .ref (E.2.1 + 1076)), (1, .int a1), (2, .int a2)] := hl
  refine lv_aload_n hx hb dX7_ahead_0 rfl (lv_at hl 0 rfl) ?_
  refine lv_iconst (v := 0) hx hb dX7_ahead_1 (by decide) ?_
  refine put7 B hP hS (by decide +kernel) 0 (by decide) mw_1027 rfl rfl rfl (fs7_0 E 1076 _ _) dX7_ahead_2 (fun H locs hP hS => ?_)
  rw [up_self ρ ((congrFun (hM 1076 (by decide)) 0).trans (show r0 1076 0 = 0 by decide +kernel))] at hP
  refine lv_aload_n hx hb dX7_ahead_5 rfl (lv_at hl 0 rfl) ?_
  refine lv_iload_n hx hb dX7_ahead_6 rfl (lv_at hl 1 rfl) ?_
  refine call_i (cVt (k := 1076) (av := [.int a1]) (rest := []) B hP hS (c_isNet l E ρ a1 ⟨((congrFun (hM 1078 (by decide)) 42).trans (show r0 1078 42 = (-1) by decide +kernel)), ((congrFun (hM 1078 (by decide)) 368).trans (show r0 1078 368 = (-1) by decide +kernel))⟩) lk_RX7_78 (hrecv (ci := 7) B hP (hk_lt (c := 7) (by decide +kernel) (by decide)) (hcc7 _ _ (by decide +kernel)) rfl) rfl rfl hl.1 (Nat.le_of_ble_eq_true rfl) ⟨Nat.le_of_ble_eq_true rfl, Nat.le_of_ble_eq_true rfl⟩ ⟨Nat.le_of_ble_eq_true rfl, Nat.le_of_ble_eq_true rfl⟩ dX7_ahead_7) hS (fun r1 ρ2 H locs q3 hP hS => ?_)
  obtain ⟨rfl, rfl⟩ := q3
  refine lv_if_eq (tgt := 21) hx hb dX7_ahead_10 (by decide) (fun _ => ?_) (fun c4 => absurd c4 (by decide))
  refine lv_iconst (v := (-1)) hx hb dX7_ahead_21 (by decide) ?_
  exact ret_i B hr hlk hP hS dX7_ahead_22 (rfl)

set_option maxHeartbeats 4000000 in
set_option maxRecDepth 100000 in
theorem c_mtogether (l : Launch) (E : hE) (ρ : Nat → Nat → Int32) (a1 a2 a3 : Int32) (hM : MF ρ) : Met l yX7_together (.code yX7_together cX7_together 6 (some .int) :: gw_all) (rmk 5 200) (cPre E ρ [.ref (E.2.1 + 1076), .int a1, .int a2, .int a3]) (cI E (fun r _ => r = (-1))) 0 0 (hA E) := by
  refine ent (own := RX7) (by decide) rfl (Nat.le_of_ble_eq_true rfl) ?_
  intro p e s m below meth c ls B hr hlk hl hP hS
  have hx := B.1.1
  have hb := B.1.2.1
  have hown := B.1.2.2.2.1
  have hts := B.1.2.2.2.2
  have hl : lv_has ls 6 [(0, .ref (E.2.1 + 1076)), (1, .int a1), (2, .int a2), (3, .int a3)] := hl
  refine lv_aload_n hx hb dX7_together_0 rfl (lv_at hl 0 rfl) ?_
  refine lv_iconst (v := 0) hx hb dX7_together_1 (by decide) ?_
  refine put7 B hP hS (by decide +kernel) 0 (by decide) mw_1027 rfl rfl rfl (fs7_0 E 1076 _ _) dX7_together_2 (fun H locs hP hS => ?_)
  rw [up_self ρ ((congrFun (hM 1076 (by decide)) 0).trans (show r0 1076 0 = 0 by decide +kernel))] at hP
  refine lv_aload_n hx hb dX7_together_5 rfl (lv_at hl 0 rfl) ?_
  refine lv_iload_n hx hb dX7_together_6 rfl (lv_at hl 1 rfl) ?_
  refine lv_iload_n hx hb dX7_together_7 rfl (lv_at hl 2 rfl) ?_
  refine call_i (cVt (k := 1076) (av := [.int a1, .int a2]) (rest := []) B hP hS (c_isLink l E ρ a1 a2 ⟨((congrFun (hM 1078 (by decide)) 42).trans (show r0 1078 42 = (-1) by decide +kernel)), ((congrFun (hM 1078 (by decide)) 368).trans (show r0 1078 368 = (-1) by decide +kernel))⟩) lk_RX7_106 (hrecv (ci := 7) B hP (hk_lt (c := 7) (by decide +kernel) (by decide)) (hcc7 _ _ (by decide +kernel)) rfl) rfl rfl hl.1 (Nat.le_of_ble_eq_true rfl) ⟨Nat.le_of_ble_eq_true rfl, Nat.le_of_ble_eq_true rfl⟩ ⟨Nat.le_of_ble_eq_true rfl, Nat.le_of_ble_eq_true rfl⟩ dX7_together_8) hS (fun r1 ρ2 H locs q3 hP hS => ?_)
  obtain ⟨rfl, rfl⟩ := q3
  refine lv_if_eq (tgt := 28) hx hb dX7_together_11 (by decide) (fun _ => ?_) (fun c4 => absurd c4 (by decide))
  refine lv_iconst (v := (-1)) hx hb dX7_together_28 (by decide) ?_
  exact ret_i B hr hlk hP hS dX7_together_29 (rfl)

set_option maxHeartbeats 4000000 in
set_option maxRecDepth 100000 in
theorem c_mranked (l : Launch) (E : hE) (ρ : Nat → Nat → Int32) (a1 a2 : Int32) (hM : MF ρ) : Met l yX7_ranked (.code yX7_ranked cX7_ranked 7 (some .int) :: gw_all) (rmk 5 200) (cPre E ρ [.ref (E.2.1 + 1076), .int a1, .int a2]) (cI E (fun r _ => r = (-1))) 0 0 (hA E) := by
  refine ent (own := RX7) (by decide) rfl (Nat.le_of_ble_eq_true rfl) ?_
  intro p e s m below meth c ls B hr hlk hl hP hS
  have hx := B.1.1
  have hb := B.1.2.1
  have hown := B.1.2.2.2.1
  have hts := B.1.2.2.2.2
  have hl : lv_has ls 7 [(0, .ref (E.2.1 + 1076)), (1, .int a1), (2, .int a2)] := hl
  refine lv_aload_n hx hb dX7_ranked_0 rfl (lv_at hl 0 rfl) ?_
  refine lv_iconst (v := 0) hx hb dX7_ranked_1 (by decide) ?_
  refine put7 B hP hS (by decide +kernel) 0 (by decide) mw_1027 rfl rfl rfl (fs7_0 E 1076 _ _) dX7_ranked_2 (fun H locs hP hS => ?_)
  rw [up_self ρ ((congrFun (hM 1076 (by decide)) 0).trans (show r0 1076 0 = 0 by decide +kernel))] at hP
  refine lv_iconst (v := (-1)) hx hb dX7_ranked_5 (by decide) ?_
  refine lv_istore_n (lv' := [(3, .int (-1)), (0, .ref (E.2.1 + 1076)), (1, .int a1), (2, .int a2)]) hx hb dX7_ranked_6 rfl hl (by decide) rfl (fun ls hl => ?_)
  refine lv_iconst (v := 0) hx hb dX7_ranked_7 (by decide) ?_
  refine lv_istore (lv' := [(4, .int 0), (3, .int (-1)), (0, .ref (E.2.1 + 1076)), (1, .int a1), (2, .int a2)]) hx hb dX7_ranked_8 hl (by decide) rfl (fun ls hl => ?_)
  refine lv_aload_n hx hb dX7_ranked_10 rfl (lv_at hl 2 rfl) ?_
  refine lv_iload_n hx hb dX7_ranked_11 rfl (lv_at hl 3 rfl) ?_
  refine call_i (cVt (k := 1076) (av := [.int a1]) (rest := []) B hP hS (c_isNet l E ρ a1 ⟨((congrFun (hM 1078 (by decide)) 42).trans (show r0 1078 42 = (-1) by decide +kernel)), ((congrFun (hM 1078 (by decide)) 368).trans (show r0 1078 368 = (-1) by decide +kernel))⟩) lk_RX7_78 (hrecv (ci := 7) B hP (hk_lt (c := 7) (by decide +kernel) (by decide)) (hcc7 _ _ (by decide +kernel)) rfl) rfl rfl hl.1 (Nat.le_of_ble_eq_true rfl) ⟨Nat.le_of_ble_eq_true rfl, Nat.le_of_ble_eq_true rfl⟩ ⟨Nat.le_of_ble_eq_true rfl, Nat.le_of_ble_eq_true rfl⟩ dX7_ranked_12) hS (fun r1 ρ2 H locs q3 hP hS => ?_)
  obtain ⟨rfl, rfl⟩ := q3
  refine lv_if_eq (tgt := 106) hx hb dX7_ranked_15 (by decide) (fun _ => ?_) (fun c4 => absurd c4 (by decide))
  refine lv_iload_n hx hb dX7_ranked_106 rfl (lv_at hl 1 rfl) ?_
  exact ret_i B hr hlk hP hS dX7_ranked_107 (rfl)

set_option maxHeartbeats 4000000 in
set_option maxRecDepth 100000 in
theorem c_mquiet (l : Launch) (E : hE) (ρ : Nat → Nat → Int32) (a1 a2 : Int32) (hM : MF ρ) : Met l yX7_quiet (.code yX7_quiet cX7_quiet 5 (some .int) :: gw_all) (rmk 5 200) (cPre E ρ [.ref (E.2.1 + 1076), .int a1, .int a2]) (cI E (fun r _ => r = (-1))) 0 0 (hA E) := by
  refine ent (own := RX7) (by decide) rfl (Nat.le_of_ble_eq_true rfl) ?_
  intro p e s m below meth c ls B hr hlk hl hP hS
  have hx := B.1.1
  have hb := B.1.2.1
  have hown := B.1.2.2.2.1
  have hts := B.1.2.2.2.2
  have hl : lv_has ls 5 [(0, .ref (E.2.1 + 1076)), (1, .int a1), (2, .int a2)] := hl
  refine lv_aload_n hx hb dX7_quiet_0 rfl (lv_at hl 0 rfl) ?_
  refine lv_iconst (v := 0) hx hb dX7_quiet_1 (by decide) ?_
  refine put7 B hP hS (by decide +kernel) 0 (by decide) mw_1027 rfl rfl rfl (fs7_0 E 1076 _ _) dX7_quiet_2 (fun H locs hP hS => ?_)
  rw [up_self ρ ((congrFun (hM 1076 (by decide)) 0).trans (show r0 1076 0 = 0 by decide +kernel))] at hP
  refine lv_aload_n hx hb dX7_quiet_5 rfl (lv_at hl 0 rfl) ?_
  refine lv_iload_n hx hb dX7_quiet_6 rfl (lv_at hl 1 rfl) ?_
  refine call_i (cVt (k := 1076) (av := [.int a1]) (rest := []) B hP hS (c_isNet l E ρ a1 ⟨((congrFun (hM 1078 (by decide)) 42).trans (show r0 1078 42 = (-1) by decide +kernel)), ((congrFun (hM 1078 (by decide)) 368).trans (show r0 1078 368 = (-1) by decide +kernel))⟩) lk_RX7_78 (hrecv (ci := 7) B hP (hk_lt (c := 7) (by decide +kernel) (by decide)) (hcc7 _ _ (by decide +kernel)) rfl) rfl rfl hl.1 (Nat.le_of_ble_eq_true rfl) ⟨Nat.le_of_ble_eq_true rfl, Nat.le_of_ble_eq_true rfl⟩ ⟨Nat.le_of_ble_eq_true rfl, Nat.le_of_ble_eq_true rfl⟩ dX7_quiet_7) hS (fun r1 ρ2 H locs q3 hP hS => ?_)
  obtain ⟨rfl, rfl⟩ := q3
  refine lv_if_eq (tgt := 25) hx hb dX7_quiet_10 (by decide) (fun _ => ?_) (fun c4 => absurd c4 (by decide))
  refine lv_iconst (v := (-1)) hx hb dX7_quiet_25 (by decide) ?_
  exact ret_i B hr hlk hP hS dX7_quiet_26 (rfl)

set_option maxHeartbeats 4000000 in
set_option maxRecDepth 100000 in
theorem c_mofNet (l : Launch) (E : hE) (ρ : Nat → Nat → Int32) (a1 a2 : Int32) (hM : MF ρ) : Met l yX7_ofNet (.code yX7_ofNet cX7_ofNet 4 (some .int) :: gw_all) (rmk 5 200) (cPre E ρ [.ref (E.2.1 + 1076), .int a1, .int a2]) (cI E (fun r _ => r = (-1))) 0 0 (hA E) := by
  refine ent (own := RX7) (by decide) rfl (Nat.le_of_ble_eq_true rfl) ?_
  intro p e s m below meth c ls B hr hlk hl hP hS
  have hx := B.1.1
  have hb := B.1.2.1
  have hown := B.1.2.2.2.1
  have hts := B.1.2.2.2.2
  have hl : lv_has ls 4 [(0, .ref (E.2.1 + 1076)), (1, .int a1), (2, .int a2)] := hl
  refine lv_aload_n hx hb dX7_ofNet_0 rfl (lv_at hl 0 rfl) ?_
  refine lv_iconst (v := 0) hx hb dX7_ofNet_1 (by decide) ?_
  refine put7 B hP hS (by decide +kernel) 0 (by decide) mw_1027 rfl rfl rfl (fs7_0 E 1076 _ _) dX7_ofNet_2 (fun H locs hP hS => ?_)
  rw [up_self ρ ((congrFun (hM 1076 (by decide)) 0).trans (show r0 1076 0 = 0 by decide +kernel))] at hP
  refine lv_aload_n hx hb dX7_ofNet_5 rfl (lv_at hl 0 rfl) ?_
  refine lv_iload_n hx hb dX7_ofNet_6 rfl (lv_at hl 1 rfl) ?_
  refine call_i (cVt (k := 1076) (av := [.int a1]) (rest := []) B hP hS (c_isNet l E ρ a1 ⟨((congrFun (hM 1078 (by decide)) 42).trans (show r0 1078 42 = (-1) by decide +kernel)), ((congrFun (hM 1078 (by decide)) 368).trans (show r0 1078 368 = (-1) by decide +kernel))⟩) lk_RX7_78 (hrecv (ci := 7) B hP (hk_lt (c := 7) (by decide +kernel) (by decide)) (hcc7 _ _ (by decide +kernel)) rfl) rfl rfl hl.1 (Nat.le_of_ble_eq_true rfl) ⟨Nat.le_of_ble_eq_true rfl, Nat.le_of_ble_eq_true rfl⟩ ⟨Nat.le_of_ble_eq_true rfl, Nat.le_of_ble_eq_true rfl⟩ dX7_ofNet_7) hS (fun r1 ρ2 H locs q3 hP hS => ?_)
  obtain ⟨rfl, rfl⟩ := q3
  refine lv_if_ne (tgt := 15) hx hb dX7_ofNet_10 (by decide) (fun c4 => absurd c4 (by decide)) (fun _ => ?_)
  refine lv_iconst (v := (-1)) hx hb dX7_ofNet_13 (by decide) ?_
  exact ret_i B hr hlk hP hS dX7_ofNet_14 (rfl)

set_option maxHeartbeats 4000000 in
set_option maxRecDepth 100000 in
theorem c_mhash (l : Launch) (E : hE) (ρ : Nat → Nat → Int32) (a1 a2 a3 : Int32) (hM : MF ρ) : Met l yX7_hash (.code yX7_hash cX7_hash 4 (some .int) :: gw_all) (rmk 5 200) (cPre E ρ [.ref (E.2.1 + 1076), .int a1, .int a2, .int a3]) (cI E (fun r _ => r = 0)) 0 0 (hA E) := by
  refine ent (own := RX7) (by decide) rfl (Nat.le_of_ble_eq_true rfl) ?_
  intro p e s m below meth c ls B hr hlk hl hP hS
  have hx := B.1.1
  have hb := B.1.2.1
  have hown := B.1.2.2.2.1
  have hts := B.1.2.2.2.2
  have hl : lv_has ls 4 [(0, .ref (E.2.1 + 1076)), (1, .int a1), (2, .int a2), (3, .int a3)] := hl
  refine lv_aload_n hx hb dX7_hash_0 rfl (lv_at hl 0 rfl) ?_
  refine lv_iconst (v := 0) hx hb dX7_hash_1 (by decide) ?_
  refine put7 B hP hS (by decide +kernel) 0 (by decide) mw_1027 rfl rfl rfl (fs7_0 E 1076 _ _) dX7_hash_2 (fun H locs hP hS => ?_)
  rw [up_self ρ ((congrFun (hM 1076 (by decide)) 0).trans (show r0 1076 0 = 0 by decide +kernel))] at hP
  refine lv_aload_n hx hb dX7_hash_5 rfl (lv_at hl 0 rfl) ?_
  refine lv_iload_n hx hb dX7_hash_6 rfl (lv_at hl 1 rfl) ?_
  refine lv_iload_n hx hb dX7_hash_7 rfl (lv_at hl 2 rfl) ?_
  refine call_i (cVt (k := 1076) (av := [.int a1, .int a2]) (rest := []) B hP hS (c_isLink l E ρ a1 a2 ⟨((congrFun (hM 1078 (by decide)) 42).trans (show r0 1078 42 = (-1) by decide +kernel)), ((congrFun (hM 1078 (by decide)) 368).trans (show r0 1078 368 = (-1) by decide +kernel))⟩) lk_RX7_106 (hrecv (ci := 7) B hP (hk_lt (c := 7) (by decide +kernel) (by decide)) (hcc7 _ _ (by decide +kernel)) rfl) rfl rfl hl.1 (Nat.le_of_ble_eq_true rfl) ⟨Nat.le_of_ble_eq_true rfl, Nat.le_of_ble_eq_true rfl⟩ ⟨Nat.le_of_ble_eq_true rfl, Nat.le_of_ble_eq_true rfl⟩ dX7_hash_8) hS (fun r1 ρ2 H locs q3 hP hS => ?_)
  obtain ⟨rfl, rfl⟩ := q3
  refine lv_if_eq (tgt := 61) hx hb dX7_hash_11 (by decide) (fun _ => ?_) (fun c4 => absurd c4 (by decide))
  refine lv_iconst (v := 0) hx hb dX7_hash_61 (by decide) ?_
  exact ret_i B hr hlk hP hS dX7_hash_62 (rfl)

set_option maxHeartbeats 4000000 in
set_option maxRecDepth 100000 in
theorem c_misThere (l : Launch) (E : hE) (ρ : Nat → Nat → Int32) (a1 a2 a3 : Int32) (hM : MF ρ) : Met l yX7_isThere (.code yX7_isThere cX7_isThere 4 (some .int) :: gw_all) (rmk 5 200) (cPre E ρ [.ref (E.2.1 + 1076), .int a1, .int a2, .int a3]) (cI E (fun r _ => r = (-1))) 0 0 (hA E) := by
  refine ent (own := RX7) (by decide) rfl (Nat.le_of_ble_eq_true rfl) ?_
  intro p e s m below meth c ls B hr hlk hl hP hS
  have hx := B.1.1
  have hb := B.1.2.1
  have hown := B.1.2.2.2.1
  have hts := B.1.2.2.2.2
  have hl : lv_has ls 4 [(0, .ref (E.2.1 + 1076)), (1, .int a1), (2, .int a2), (3, .int a3)] := hl
  refine lv_aload_n hx hb dX7_isThere_0 rfl (lv_at hl 0 rfl) ?_
  refine lv_iconst (v := 0) hx hb dX7_isThere_1 (by decide) ?_
  refine put7 B hP hS (by decide +kernel) 0 (by decide) mw_1027 rfl rfl rfl (fs7_0 E 1076 _ _) dX7_isThere_2 (fun H locs hP hS => ?_)
  rw [up_self ρ ((congrFun (hM 1076 (by decide)) 0).trans (show r0 1076 0 = 0 by decide +kernel))] at hP
  refine lv_aload_n hx hb dX7_isThere_5 rfl (lv_at hl 0 rfl) ?_
  refine lv_iload_n hx hb dX7_isThere_6 rfl (lv_at hl 1 rfl) ?_
  refine call_i (cVt (k := 1076) (av := [.int a1]) (rest := []) B hP hS (c_isRadio l E ρ a1 ((congrFun (hM 1078 (by decide)) 0).trans (show r0 1078 0 = 0 by decide +kernel))) lk_RX7_124 (hrecv (ci := 7) B hP (hk_lt (c := 7) (by decide +kernel) (by decide)) (hcc7 _ _ (by decide +kernel)) rfl) rfl rfl hl.1 (Nat.le_of_ble_eq_true rfl) ⟨Nat.le_of_ble_eq_true rfl, Nat.le_of_ble_eq_true rfl⟩ ⟨Nat.le_of_ble_eq_true rfl, Nat.le_of_ble_eq_true rfl⟩ dX7_isThere_7) hS (fun r1 ρ2 H locs q3 hP hS => ?_)
  obtain ⟨rfl, rfl⟩ := q3
  refine lv_if_eq (tgt := 53) hx hb dX7_isThere_10 (by decide) (fun _ => ?_) (fun c4 => absurd c4 (by decide))
  refine lv_iconst (v := (-1)) hx hb dX7_isThere_53 (by decide) ?_
  exact ret_i B hr hlk hP hS dX7_isThere_54 (rfl)

set_option maxHeartbeats 4000000 in
set_option maxRecDepth 100000 in
theorem c_mstatus (l : Launch) (E : hE) (ρ : Nat → Nat → Int32) (hM : MF ρ) : Met l yX7_status (.code yX7_status cX7_status 1 (some .int) :: gw_all) (rmk 5 200) (cPre E ρ [.ref (E.2.1 + 1076)]) (cI E (fun r _ => r = 0)) 0 0 (hA E) := by
  refine ent (own := RX7) (by decide) rfl (Nat.le_of_ble_eq_true rfl) ?_
  intro p e s m below meth c ls B hr hlk hl hP hS
  have hx := B.1.1
  have hb := B.1.2.1
  have hown := B.1.2.2.2.1
  have hts := B.1.2.2.2.2
  have hl : lv_has ls 1 [(0, .ref (E.2.1 + 1076))] := hl
  refine lv_aload_n hx hb dX7_status_0 rfl (lv_at hl 0 rfl) ?_
  refine lv_iconst (v := 0) hx hb dX7_status_1 (by decide) ?_
  refine put7 B hP hS (by decide +kernel) 0 (by decide) mw_1027 rfl rfl rfl (fs7_0 E 1076 _ _) dX7_status_2 (fun H locs hP hS => ?_)
  rw [up_self ρ ((congrFun (hM 1076 (by decide)) 0).trans (show r0 1076 0 = 0 by decide +kernel))] at hP
  refine lv_aload_n hx hb dX7_status_5 rfl (lv_at hl 0 rfl) ?_
  refine get7 B hP (by decide +kernel) 1 (by decide) mw_1028 (v := .int 0) (show some (Value.int (ρ 1076 1)) = some (Value.int 0) from congrArg (fun z => some (Value.int z)) ((congrFun (hM 1076 (by decide)) 1).trans (show r0 1076 1 = 0 by decide +kernel))) dX7_status_6 ?_
  exact ret_i B hr hlk hP hS dX7_status_9 (rfl)

theorem lk_RX7_283 : LkV RX7 283 RX7 yX7_heardOfAll cX7_heardOfAll 4 (some .int) 0 := ⟨⟨mw_1475, mw_1477, mw_50, mw_59, mw_1478⟩, by decide +kernel⟩
set_option maxHeartbeats 4000000 in
set_option maxRecDepth 100000 in
theorem c_mcount (l : Launch) (E : hE) (ρ : Nat → Nat → Int32) (a1 : Int32) (hM : MF ρ) : Met l yX7_count (.code yX7_count cX7_count 2 (some .int) :: gw_all) (rmk 5 200) (cPre E ρ [.ref (E.2.1 + 1076), .int a1]) (cI E (fun r _ => r = cnt a1.toInt)) 0 0 (hA E) := by
  refine ent (own := RX7) (by decide) rfl (Nat.le_of_ble_eq_true rfl) ?_
  intro p e s m below meth c ls B hr hlk hl hP hS
  have hx := B.1.1
  have hb := B.1.2.1
  have hown := B.1.2.2.2.1
  have hts := B.1.2.2.2.2
  have hl : lv_has ls 2 [(0, .ref (E.2.1 + 1076)), (1, .int a1)] := hl
  refine lv_aload_n hx hb dX7_count_0 rfl (lv_at hl 0 rfl) ?_
  refine lv_iconst (v := 0) hx hb dX7_count_1 (by decide) ?_
  refine put7 B hP hS (by decide +kernel) 0 (by decide) mw_1027 rfl rfl rfl (fs7_0 E 1076 _ _) dX7_count_2 (fun H locs hP hS => ?_)
  rw [up_self ρ ((congrFun (hM 1076 (by decide)) 0).trans (show r0 1076 0 = 0 by decide +kernel))] at hP
  refine lv_iload_n hx hb dX7_count_5 rfl (lv_at hl 1 rfl) ?_
  rcases sw_split (x := a1) (lo := 0) (hi := 19) (by decide) with c1 | c1
  · skip
    refine lv_tableOut (tgt := 186) hx hb dX7_count_6 c1 (by decide) ?_
    refine lv_iload_n hx hb dX7_count_186 rfl (lv_at hl 1 rfl) ?_
    refine lv_i2l hx hb dX7_count_187 rfl ?_
    refine lv_ldc2 (v := 10) hx hb hown (hts _ mw_1479) dX7_count_188 ?_
    refine lv_ldc2 (v := 17) hx hb hown (hts _ mw_1480) dX7_count_191 ?_
    refine call_i (cS (av := [.long a1.toInt64, .long 10, .long 17]) (rest := []) B hP hS (c_in l E ρ a1.toInt64 10 17 10 17 (by decide) (by decide)) lk_RX7_71 rfl rfl hl.1 (Nat.le_of_ble_eq_true rfl) ⟨Nat.le_of_ble_eq_true rfl, Nat.le_of_ble_eq_true rfl⟩ ⟨Nat.le_of_ble_eq_true rfl, Nat.le_of_ble_eq_true rfl⟩ dX7_count_194) hS (fun r2 ρ3 H locs q4 hP hS => ?_)
    obtain ⟨rfl, q4⟩ := q4
    rw [lR_i] at q4
    rcases q4 with ⟨rfl, q4⟩ | ⟨rfl, q4⟩
    · skip
      refine lv_if_eq (tgt := 215) hx hb dX7_count_197 (by decide) (fun c5 => absurd c5 (by decide)) (fun _ => ?_)
      refine lv_aload_n hx hb dX7_count_200 rfl (lv_at hl 0 rfl) ?_
      refine get7 B hP (by decide +kernel) 3 (by decide) mw_1030 rfl dX7_count_201 ?_
      refine lv_bipush (v := 11) hx hb dX7_count_204 (by decide) ?_
      refine lv_iload_n hx hb dX7_count_206 rfl (lv_at hl 1 rfl) ?_
      refine lv_iadd hx hb dX7_count_207 ?_
      refine lv_bipush (v := 10) hx hb dX7_count_208 (by decide) ?_
      refine lv_isub hx hb dX7_count_210 ?_
      obtain ⟨j, hj, ej⟩ := iR_nat q4 (by decide) (by decide)
      refine aldf (n := 695) (j := (j + 1)) (v := 0) B hP (by decide +kernel) (by decide +kernel) (by rw [ej]; exact ix_cnt j) (by omega) (by decide) ((congrFun (hM 1078 (by decide)) (j + 1)).trans (r0_row (by omega) (by omega))) dX7_count_211 ?_
      refine lv_goto (tgt := 216) hx hb dX7_count_212 (by decide) ?_
      exact ret_i B hr hlk hP hS dX7_count_216 (cnt_mid q4)
    · skip
      refine lv_if_eq (tgt := 215) hx hb dX7_count_197 (by decide) (fun _ => ?_) (fun c6 => absurd c6 (by decide))
      refine lv_iconst (v := (-1)) hx hb dX7_count_215 (by decide) ?_
      exact ret_i B hr hlk hP hS dX7_count_216 (cnt_out c1)
  · skip
    rcases sw_step (x := a1) (n := 0) (n' := 1) (by decide) c1 with c1 | c1
    · skip
      refine lv_tableIn (off := 94) (tgt := 100) hx hb dX7_count_6 (by rw [c1]; decide) (by rw [c1]; decide) (by rw [c1]; decide) (by decide) ?_
      refine lv_aload_n hx hb dX7_count_100 rfl (lv_at hl 0 rfl) ?_
      refine get7 B hP (by decide +kernel) 3 (by decide) mw_1030 rfl dX7_count_101 ?_
      refine lv_bipush (v := 7) hx hb dX7_count_104 (by decide) ?_
      refine aldf (n := 695) (j := 7) (v := 0) B hP (by decide +kernel) (by decide +kernel) rfl (by decide) (by decide) ((congrFun (hM 1078 (by decide)) 7).trans (show r0 1078 7 = 0 by decide +kernel)) dX7_count_106 ?_
      exact ret_i B hr hlk hP hS dX7_count_107 ((by rw [c1]; decide))
    · skip
      rcases sw_step (x := a1) (n := 1) (n' := 2) (by decide) c1 with c1 | c1
      · skip
        refine lv_tableIn (off := 102) (tgt := 108) hx hb dX7_count_6 (by rw [c1]; decide) (by rw [c1]; decide) (by rw [c1]; decide) (by decide) ?_
        refine lv_aload_n hx hb dX7_count_108 rfl (lv_at hl 0 rfl) ?_
        refine get7 B hP (by decide +kernel) 3 (by decide) mw_1030 rfl dX7_count_109 ?_
        refine lv_iconst (v := 0) hx hb dX7_count_112 (by decide) ?_
        refine aldf (n := 695) (j := 0) (v := 0) B hP (by decide +kernel) (by decide +kernel) rfl (by decide) (by decide) ((congrFun (hM 1078 (by decide)) 0).trans (show r0 1078 0 = 0 by decide +kernel)) dX7_count_113 ?_
        exact ret_i B hr hlk hP hS dX7_count_114 ((by rw [c1]; decide))
      · skip
        rcases sw_step (x := a1) (n := 2) (n' := 3) (by decide) c1 with c1 | c1
        · skip
          refine lv_tableIn (off := 109) (tgt := 115) hx hb dX7_count_6 (by rw [c1]; decide) (by rw [c1]; decide) (by rw [c1]; decide) (by decide) ?_
          refine lv_aload_n hx hb dX7_count_115 rfl (lv_at hl 0 rfl) ?_
          refine get7 B hP (by decide +kernel) 3 (by decide) mw_1030 rfl dX7_count_116 ?_
          refine lv_bipush (v := 8) hx hb dX7_count_119 (by decide) ?_
          refine aldf (n := 695) (j := 8) (v := 1) B hP (by decide +kernel) (by decide +kernel) rfl (by decide) (by decide) ((congrFun (hM 1078 (by decide)) 8).trans (show r0 1078 8 = 1 by decide +kernel)) dX7_count_121 ?_
          exact ret_i B hr hlk hP hS dX7_count_122 ((by rw [c1]; decide))
        · skip
          rcases sw_step (x := a1) (n := 3) (n' := 4) (by decide) c1 with c1 | c1
          · skip
            refine lv_tableIn (off := 117) (tgt := 123) hx hb dX7_count_6 (by rw [c1]; decide) (by rw [c1]; decide) (by rw [c1]; decide) (by decide) ?_
            refine lv_aload_n hx hb dX7_count_123 rfl (lv_at hl 0 rfl) ?_
            refine get7 B hP (by decide +kernel) 3 (by decide) mw_1030 rfl dX7_count_124 ?_
            refine lv_bipush (v := 9) hx hb dX7_count_127 (by decide) ?_
            refine aldf (n := 695) (j := 9) (v := 16) B hP (by decide +kernel) (by decide +kernel) rfl (by decide) (by decide) ((congrFun (hM 1078 (by decide)) 9).trans (show r0 1078 9 = 16 by decide +kernel)) dX7_count_129 ?_
            exact ret_i B hr hlk hP hS dX7_count_130 ((by rw [c1]; decide))
          · skip
            rcases sw_step (x := a1) (n := 4) (n' := 5) (by decide) c1 with c1 | c1
            · skip
              refine lv_tableIn (off := 125) (tgt := 131) hx hb dX7_count_6 (by rw [c1]; decide) (by rw [c1]; decide) (by rw [c1]; decide) (by decide) ?_
              refine lv_aload_n hx hb dX7_count_131 rfl (lv_at hl 0 rfl) ?_
              refine call_i (cVt (k := 1076) (av := []) (rest := []) B hP hS (c_mheardOfAll l E ρ ⟨((congrFun (hM 1078 (by decide)) 42).trans (show r0 1078 42 = (-1) by decide +kernel)), ((congrFun (hM 1078 (by decide)) 368).trans (show r0 1078 368 = (-1) by decide +kernel))⟩) lk_RX7_283 (hrecv (ci := 7) B hP (hk_lt (c := 7) (by decide +kernel) (by decide)) (hcc7 _ _ (by decide +kernel)) rfl) rfl rfl hl.1 (Nat.le_of_ble_eq_true rfl) ⟨Nat.le_of_ble_eq_true rfl, Nat.le_of_ble_eq_true rfl⟩ ⟨Nat.le_of_ble_eq_true rfl, Nat.le_of_ble_eq_true rfl⟩ dX7_count_132) hS (fun r7 ρ8 H locs q9 hP hS => ?_)
              obtain ⟨rfl, rfl⟩ := q9
              exact ret_i B hr hlk hP hS dX7_count_135 ((by rw [c1]; decide))
            · skip
              rcases sw_step (x := a1) (n := 5) (n' := 6) (by decide) c1 with c1 | c1
              · skip
                refine lv_tableIn (off := 130) (tgt := 136) hx hb dX7_count_6 (by rw [c1]; decide) (by rw [c1]; decide) (by rw [c1]; decide) (by decide) ?_
                refine lv_aload_n hx hb dX7_count_136 rfl (lv_at hl 0 rfl) ?_
                refine get7 B hP (by decide +kernel) 2 (by decide) mw_1029 rfl dX7_count_137 ?_
                refine lv_iconst (v := 1) hx hb dX7_count_140 (by decide) ?_
                refine aldf (n := 6) (j := 1) (v := 0) B hP (by decide +kernel) (by decide +kernel) rfl (by decide) (by decide) ((congrFun (hM 1077 (by decide)) 1).trans (show r0 1077 1 = 0 by decide +kernel)) dX7_count_141 ?_
                exact ret_i B hr hlk hP hS dX7_count_142 ((by rw [c1]; decide))
              · skip
                rcases sw_step (x := a1) (n := 6) (n' := 7) (by decide) c1 with c1 | c1
                · skip
                  refine lv_tableIn (off := 137) (tgt := 143) hx hb dX7_count_6 (by rw [c1]; decide) (by rw [c1]; decide) (by rw [c1]; decide) (by decide) ?_
                  refine lv_aload_n hx hb dX7_count_143 rfl (lv_at hl 0 rfl) ?_
                  refine get7 B hP (by decide +kernel) 2 (by decide) mw_1029 rfl dX7_count_144 ?_
                  refine lv_iconst (v := 2) hx hb dX7_count_147 (by decide) ?_
                  refine aldf (n := 6) (j := 2) (v := 0) B hP (by decide +kernel) (by decide +kernel) rfl (by decide) (by decide) ((congrFun (hM 1077 (by decide)) 2).trans (show r0 1077 2 = 0 by decide +kernel)) dX7_count_148 ?_
                  exact ret_i B hr hlk hP hS dX7_count_149 ((by rw [c1]; decide))
                · skip
                  rcases sw_step (x := a1) (n := 7) (n' := 8) (by decide) c1 with c1 | c1
                  · skip
                    refine lv_tableIn (off := 144) (tgt := 150) hx hb dX7_count_6 (by rw [c1]; decide) (by rw [c1]; decide) (by rw [c1]; decide) (by decide) ?_
                    refine lv_aload_n hx hb dX7_count_150 rfl (lv_at hl 0 rfl) ?_
                    refine get7 B hP (by decide +kernel) 2 (by decide) mw_1029 rfl dX7_count_151 ?_
                    refine lv_iconst (v := 4) hx hb dX7_count_154 (by decide) ?_
                    refine aldf (n := 6) (j := 4) (v := 0) B hP (by decide +kernel) (by decide +kernel) rfl (by decide) (by decide) ((congrFun (hM 1077 (by decide)) 4).trans (show r0 1077 4 = 0 by decide +kernel)) dX7_count_155 ?_
                    exact ret_i B hr hlk hP hS dX7_count_156 ((by rw [c1]; decide))
                  · skip
                    rcases sw_step (x := a1) (n := 8) (n' := 9) (by decide) c1 with c1 | c1
                    · skip
                      refine lv_tableIn (off := 151) (tgt := 157) hx hb dX7_count_6 (by rw [c1]; decide) (by rw [c1]; decide) (by rw [c1]; decide) (by decide) ?_
                      refine lv_aload_n hx hb dX7_count_157 rfl (lv_at hl 0 rfl) ?_
                      refine get7 B hP (by decide +kernel) 2 (by decide) mw_1029 rfl dX7_count_158 ?_
                      refine lv_iconst (v := 5) hx hb dX7_count_161 (by decide) ?_
                      refine aldf (n := 6) (j := 5) (v := 0) B hP (by decide +kernel) (by decide +kernel) rfl (by decide) (by decide) ((congrFun (hM 1077 (by decide)) 5).trans (show r0 1077 5 = 0 by decide +kernel)) dX7_count_162 ?_
                      exact ret_i B hr hlk hP hS dX7_count_163 ((by rw [c1]; decide))
                    · skip
                      rcases sw_step (x := a1) (n := 9) (n' := 10) (by decide) c1 with c1 | c1
                      · skip
                        refine lv_tableIn (off := 158) (tgt := 164) hx hb dX7_count_6 (by rw [c1]; decide) (by rw [c1]; decide) (by rw [c1]; decide) (by decide) ?_
                        refine lv_aload_n hx hb dX7_count_164 rfl (lv_at hl 0 rfl) ?_
                        refine get7 B hP (by decide +kernel) 6 (by decide) mw_1033 (v := .int 0) (show some (Value.int (ρ 1076 6)) = some (Value.int 0) from congrArg (fun z => some (Value.int z)) ((congrFun (hM 1076 (by decide)) 6).trans (show r0 1076 6 = 0 by decide +kernel))) dX7_count_165 ?_
                        exact ret_i B hr hlk hP hS dX7_count_168 ((by rw [c1]; decide))
                      · skip
                        rcases sw_step (x := a1) (n := 10) (n' := 11) (by decide) c1 with c1 | c1
                        · skip
                          refine lv_tableIn (off := 180) (tgt := 186) hx hb dX7_count_6 (by rw [c1]; decide) (by rw [c1]; decide) (by rw [c1]; decide) (by decide) ?_
                          refine lv_iload_n hx hb dX7_count_186 rfl (lv_at hl 1 rfl) ?_
                          refine lv_i2l hx hb dX7_count_187 rfl ?_
                          refine lv_ldc2 (v := 10) hx hb hown (hts _ mw_1479) dX7_count_188 ?_
                          refine lv_ldc2 (v := 17) hx hb hown (hts _ mw_1480) dX7_count_191 ?_
                          refine call_i (cS (av := [.long a1.toInt64, .long 10, .long 17]) (rest := []) B hP hS (c_in l E ρ a1.toInt64 10 17 10 17 (by decide) (by decide)) lk_RX7_71 rfl rfl hl.1 (Nat.le_of_ble_eq_true rfl) ⟨Nat.le_of_ble_eq_true rfl, Nat.le_of_ble_eq_true rfl⟩ ⟨Nat.le_of_ble_eq_true rfl, Nat.le_of_ble_eq_true rfl⟩ dX7_count_194) hS (fun r10 ρ11 H locs q12 hP hS => ?_)
                          obtain ⟨rfl, q12⟩ := q12
                          rw [lR_i] at q12
                          rcases q12 with ⟨rfl, q12⟩ | ⟨rfl, q12⟩
                          · skip
                            refine lv_if_eq (tgt := 215) hx hb dX7_count_197 (by decide) (fun c13 => absurd c13 (by decide)) (fun _ => ?_)
                            refine lv_aload_n hx hb dX7_count_200 rfl (lv_at hl 0 rfl) ?_
                            refine get7 B hP (by decide +kernel) 3 (by decide) mw_1030 rfl dX7_count_201 ?_
                            refine lv_bipush (v := 11) hx hb dX7_count_204 (by decide) ?_
                            refine lv_iload_n hx hb dX7_count_206 rfl (lv_at hl 1 rfl) ?_
                            refine lv_iadd hx hb dX7_count_207 ?_
                            refine lv_bipush (v := 10) hx hb dX7_count_208 (by decide) ?_
                            refine lv_isub hx hb dX7_count_210 ?_
                            obtain ⟨j, hj, ej⟩ := iR_nat q12 (by decide) (by decide)
                            refine aldf (n := 695) (j := (j + 1)) (v := 0) B hP (by decide +kernel) (by decide +kernel) (by rw [ej]; exact ix_cnt j) (by omega) (by decide) ((congrFun (hM 1078 (by decide)) (j + 1)).trans (r0_row (by omega) (by omega))) dX7_count_211 ?_
                            refine lv_goto (tgt := 216) hx hb dX7_count_212 (by decide) ?_
                            exact ret_i B hr hlk hP hS dX7_count_216 (cnt_mid q12)
                          · skip
                            refine lv_if_eq (tgt := 215) hx hb dX7_count_197 (by decide) (fun _ => ?_) (fun c14 => absurd c14 (by decide))
                            refine lv_iconst (v := (-1)) hx hb dX7_count_215 (by decide) ?_
                            exact ret_i B hr hlk hP hS dX7_count_216 (absurd (show iR a1 10 17 from ⟨by rw [c1]; decide, by rw [c1]; decide⟩) q12)
                        · skip
                          rcases sw_step (x := a1) (n := 11) (n' := 12) (by decide) c1 with c1 | c1
                          · skip
                            refine lv_tableIn (off := 180) (tgt := 186) hx hb dX7_count_6 (by rw [c1]; decide) (by rw [c1]; decide) (by rw [c1]; decide) (by decide) ?_
                            refine lv_iload_n hx hb dX7_count_186 rfl (lv_at hl 1 rfl) ?_
                            refine lv_i2l hx hb dX7_count_187 rfl ?_
                            refine lv_ldc2 (v := 10) hx hb hown (hts _ mw_1479) dX7_count_188 ?_
                            refine lv_ldc2 (v := 17) hx hb hown (hts _ mw_1480) dX7_count_191 ?_
                            refine call_i (cS (av := [.long a1.toInt64, .long 10, .long 17]) (rest := []) B hP hS (c_in l E ρ a1.toInt64 10 17 10 17 (by decide) (by decide)) lk_RX7_71 rfl rfl hl.1 (Nat.le_of_ble_eq_true rfl) ⟨Nat.le_of_ble_eq_true rfl, Nat.le_of_ble_eq_true rfl⟩ ⟨Nat.le_of_ble_eq_true rfl, Nat.le_of_ble_eq_true rfl⟩ dX7_count_194) hS (fun r15 ρ16 H locs q17 hP hS => ?_)
                            obtain ⟨rfl, q17⟩ := q17
                            rw [lR_i] at q17
                            rcases q17 with ⟨rfl, q17⟩ | ⟨rfl, q17⟩
                            · skip
                              refine lv_if_eq (tgt := 215) hx hb dX7_count_197 (by decide) (fun c18 => absurd c18 (by decide)) (fun _ => ?_)
                              refine lv_aload_n hx hb dX7_count_200 rfl (lv_at hl 0 rfl) ?_
                              refine get7 B hP (by decide +kernel) 3 (by decide) mw_1030 rfl dX7_count_201 ?_
                              refine lv_bipush (v := 11) hx hb dX7_count_204 (by decide) ?_
                              refine lv_iload_n hx hb dX7_count_206 rfl (lv_at hl 1 rfl) ?_
                              refine lv_iadd hx hb dX7_count_207 ?_
                              refine lv_bipush (v := 10) hx hb dX7_count_208 (by decide) ?_
                              refine lv_isub hx hb dX7_count_210 ?_
                              obtain ⟨j, hj, ej⟩ := iR_nat q17 (by decide) (by decide)
                              refine aldf (n := 695) (j := (j + 1)) (v := 0) B hP (by decide +kernel) (by decide +kernel) (by rw [ej]; exact ix_cnt j) (by omega) (by decide) ((congrFun (hM 1078 (by decide)) (j + 1)).trans (r0_row (by omega) (by omega))) dX7_count_211 ?_
                              refine lv_goto (tgt := 216) hx hb dX7_count_212 (by decide) ?_
                              exact ret_i B hr hlk hP hS dX7_count_216 (cnt_mid q17)
                            · skip
                              refine lv_if_eq (tgt := 215) hx hb dX7_count_197 (by decide) (fun _ => ?_) (fun c19 => absurd c19 (by decide))
                              refine lv_iconst (v := (-1)) hx hb dX7_count_215 (by decide) ?_
                              exact ret_i B hr hlk hP hS dX7_count_216 (absurd (show iR a1 10 17 from ⟨by rw [c1]; decide, by rw [c1]; decide⟩) q17)
                          · skip
                            rcases sw_step (x := a1) (n := 12) (n' := 13) (by decide) c1 with c1 | c1
                            · skip
                              refine lv_tableIn (off := 180) (tgt := 186) hx hb dX7_count_6 (by rw [c1]; decide) (by rw [c1]; decide) (by rw [c1]; decide) (by decide) ?_
                              refine lv_iload_n hx hb dX7_count_186 rfl (lv_at hl 1 rfl) ?_
                              refine lv_i2l hx hb dX7_count_187 rfl ?_
                              refine lv_ldc2 (v := 10) hx hb hown (hts _ mw_1479) dX7_count_188 ?_
                              refine lv_ldc2 (v := 17) hx hb hown (hts _ mw_1480) dX7_count_191 ?_
                              refine call_i (cS (av := [.long a1.toInt64, .long 10, .long 17]) (rest := []) B hP hS (c_in l E ρ a1.toInt64 10 17 10 17 (by decide) (by decide)) lk_RX7_71 rfl rfl hl.1 (Nat.le_of_ble_eq_true rfl) ⟨Nat.le_of_ble_eq_true rfl, Nat.le_of_ble_eq_true rfl⟩ ⟨Nat.le_of_ble_eq_true rfl, Nat.le_of_ble_eq_true rfl⟩ dX7_count_194) hS (fun r20 ρ21 H locs q22 hP hS => ?_)
                              obtain ⟨rfl, q22⟩ := q22
                              rw [lR_i] at q22
                              rcases q22 with ⟨rfl, q22⟩ | ⟨rfl, q22⟩
                              · skip
                                refine lv_if_eq (tgt := 215) hx hb dX7_count_197 (by decide) (fun c23 => absurd c23 (by decide)) (fun _ => ?_)
                                refine lv_aload_n hx hb dX7_count_200 rfl (lv_at hl 0 rfl) ?_
                                refine get7 B hP (by decide +kernel) 3 (by decide) mw_1030 rfl dX7_count_201 ?_
                                refine lv_bipush (v := 11) hx hb dX7_count_204 (by decide) ?_
                                refine lv_iload_n hx hb dX7_count_206 rfl (lv_at hl 1 rfl) ?_
                                refine lv_iadd hx hb dX7_count_207 ?_
                                refine lv_bipush (v := 10) hx hb dX7_count_208 (by decide) ?_
                                refine lv_isub hx hb dX7_count_210 ?_
                                obtain ⟨j, hj, ej⟩ := iR_nat q22 (by decide) (by decide)
                                refine aldf (n := 695) (j := (j + 1)) (v := 0) B hP (by decide +kernel) (by decide +kernel) (by rw [ej]; exact ix_cnt j) (by omega) (by decide) ((congrFun (hM 1078 (by decide)) (j + 1)).trans (r0_row (by omega) (by omega))) dX7_count_211 ?_
                                refine lv_goto (tgt := 216) hx hb dX7_count_212 (by decide) ?_
                                exact ret_i B hr hlk hP hS dX7_count_216 (cnt_mid q22)
                              · skip
                                refine lv_if_eq (tgt := 215) hx hb dX7_count_197 (by decide) (fun _ => ?_) (fun c24 => absurd c24 (by decide))
                                refine lv_iconst (v := (-1)) hx hb dX7_count_215 (by decide) ?_
                                exact ret_i B hr hlk hP hS dX7_count_216 (absurd (show iR a1 10 17 from ⟨by rw [c1]; decide, by rw [c1]; decide⟩) q22)
                            · skip
                              rcases sw_step (x := a1) (n := 13) (n' := 14) (by decide) c1 with c1 | c1
                              · skip
                                refine lv_tableIn (off := 180) (tgt := 186) hx hb dX7_count_6 (by rw [c1]; decide) (by rw [c1]; decide) (by rw [c1]; decide) (by decide) ?_
                                refine lv_iload_n hx hb dX7_count_186 rfl (lv_at hl 1 rfl) ?_
                                refine lv_i2l hx hb dX7_count_187 rfl ?_
                                refine lv_ldc2 (v := 10) hx hb hown (hts _ mw_1479) dX7_count_188 ?_
                                refine lv_ldc2 (v := 17) hx hb hown (hts _ mw_1480) dX7_count_191 ?_
                                refine call_i (cS (av := [.long a1.toInt64, .long 10, .long 17]) (rest := []) B hP hS (c_in l E ρ a1.toInt64 10 17 10 17 (by decide) (by decide)) lk_RX7_71 rfl rfl hl.1 (Nat.le_of_ble_eq_true rfl) ⟨Nat.le_of_ble_eq_true rfl, Nat.le_of_ble_eq_true rfl⟩ ⟨Nat.le_of_ble_eq_true rfl, Nat.le_of_ble_eq_true rfl⟩ dX7_count_194) hS (fun r25 ρ26 H locs q27 hP hS => ?_)
                                obtain ⟨rfl, q27⟩ := q27
                                rw [lR_i] at q27
                                rcases q27 with ⟨rfl, q27⟩ | ⟨rfl, q27⟩
                                · skip
                                  refine lv_if_eq (tgt := 215) hx hb dX7_count_197 (by decide) (fun c28 => absurd c28 (by decide)) (fun _ => ?_)
                                  refine lv_aload_n hx hb dX7_count_200 rfl (lv_at hl 0 rfl) ?_
                                  refine get7 B hP (by decide +kernel) 3 (by decide) mw_1030 rfl dX7_count_201 ?_
                                  refine lv_bipush (v := 11) hx hb dX7_count_204 (by decide) ?_
                                  refine lv_iload_n hx hb dX7_count_206 rfl (lv_at hl 1 rfl) ?_
                                  refine lv_iadd hx hb dX7_count_207 ?_
                                  refine lv_bipush (v := 10) hx hb dX7_count_208 (by decide) ?_
                                  refine lv_isub hx hb dX7_count_210 ?_
                                  obtain ⟨j, hj, ej⟩ := iR_nat q27 (by decide) (by decide)
                                  refine aldf (n := 695) (j := (j + 1)) (v := 0) B hP (by decide +kernel) (by decide +kernel) (by rw [ej]; exact ix_cnt j) (by omega) (by decide) ((congrFun (hM 1078 (by decide)) (j + 1)).trans (r0_row (by omega) (by omega))) dX7_count_211 ?_
                                  refine lv_goto (tgt := 216) hx hb dX7_count_212 (by decide) ?_
                                  exact ret_i B hr hlk hP hS dX7_count_216 (cnt_mid q27)
                                · skip
                                  refine lv_if_eq (tgt := 215) hx hb dX7_count_197 (by decide) (fun _ => ?_) (fun c29 => absurd c29 (by decide))
                                  refine lv_iconst (v := (-1)) hx hb dX7_count_215 (by decide) ?_
                                  exact ret_i B hr hlk hP hS dX7_count_216 (absurd (show iR a1 10 17 from ⟨by rw [c1]; decide, by rw [c1]; decide⟩) q27)
                              · skip
                                rcases sw_step (x := a1) (n := 14) (n' := 15) (by decide) c1 with c1 | c1
                                · skip
                                  refine lv_tableIn (off := 180) (tgt := 186) hx hb dX7_count_6 (by rw [c1]; decide) (by rw [c1]; decide) (by rw [c1]; decide) (by decide) ?_
                                  refine lv_iload_n hx hb dX7_count_186 rfl (lv_at hl 1 rfl) ?_
                                  refine lv_i2l hx hb dX7_count_187 rfl ?_
                                  refine lv_ldc2 (v := 10) hx hb hown (hts _ mw_1479) dX7_count_188 ?_
                                  refine lv_ldc2 (v := 17) hx hb hown (hts _ mw_1480) dX7_count_191 ?_
                                  refine call_i (cS (av := [.long a1.toInt64, .long 10, .long 17]) (rest := []) B hP hS (c_in l E ρ a1.toInt64 10 17 10 17 (by decide) (by decide)) lk_RX7_71 rfl rfl hl.1 (Nat.le_of_ble_eq_true rfl) ⟨Nat.le_of_ble_eq_true rfl, Nat.le_of_ble_eq_true rfl⟩ ⟨Nat.le_of_ble_eq_true rfl, Nat.le_of_ble_eq_true rfl⟩ dX7_count_194) hS (fun r30 ρ31 H locs q32 hP hS => ?_)
                                  obtain ⟨rfl, q32⟩ := q32
                                  rw [lR_i] at q32
                                  rcases q32 with ⟨rfl, q32⟩ | ⟨rfl, q32⟩
                                  · skip
                                    refine lv_if_eq (tgt := 215) hx hb dX7_count_197 (by decide) (fun c33 => absurd c33 (by decide)) (fun _ => ?_)
                                    refine lv_aload_n hx hb dX7_count_200 rfl (lv_at hl 0 rfl) ?_
                                    refine get7 B hP (by decide +kernel) 3 (by decide) mw_1030 rfl dX7_count_201 ?_
                                    refine lv_bipush (v := 11) hx hb dX7_count_204 (by decide) ?_
                                    refine lv_iload_n hx hb dX7_count_206 rfl (lv_at hl 1 rfl) ?_
                                    refine lv_iadd hx hb dX7_count_207 ?_
                                    refine lv_bipush (v := 10) hx hb dX7_count_208 (by decide) ?_
                                    refine lv_isub hx hb dX7_count_210 ?_
                                    obtain ⟨j, hj, ej⟩ := iR_nat q32 (by decide) (by decide)
                                    refine aldf (n := 695) (j := (j + 1)) (v := 0) B hP (by decide +kernel) (by decide +kernel) (by rw [ej]; exact ix_cnt j) (by omega) (by decide) ((congrFun (hM 1078 (by decide)) (j + 1)).trans (r0_row (by omega) (by omega))) dX7_count_211 ?_
                                    refine lv_goto (tgt := 216) hx hb dX7_count_212 (by decide) ?_
                                    exact ret_i B hr hlk hP hS dX7_count_216 (cnt_mid q32)
                                  · skip
                                    refine lv_if_eq (tgt := 215) hx hb dX7_count_197 (by decide) (fun _ => ?_) (fun c34 => absurd c34 (by decide))
                                    refine lv_iconst (v := (-1)) hx hb dX7_count_215 (by decide) ?_
                                    exact ret_i B hr hlk hP hS dX7_count_216 (absurd (show iR a1 10 17 from ⟨by rw [c1]; decide, by rw [c1]; decide⟩) q32)
                                · skip
                                  rcases sw_step (x := a1) (n := 15) (n' := 16) (by decide) c1 with c1 | c1
                                  · skip
                                    refine lv_tableIn (off := 180) (tgt := 186) hx hb dX7_count_6 (by rw [c1]; decide) (by rw [c1]; decide) (by rw [c1]; decide) (by decide) ?_
                                    refine lv_iload_n hx hb dX7_count_186 rfl (lv_at hl 1 rfl) ?_
                                    refine lv_i2l hx hb dX7_count_187 rfl ?_
                                    refine lv_ldc2 (v := 10) hx hb hown (hts _ mw_1479) dX7_count_188 ?_
                                    refine lv_ldc2 (v := 17) hx hb hown (hts _ mw_1480) dX7_count_191 ?_
                                    refine call_i (cS (av := [.long a1.toInt64, .long 10, .long 17]) (rest := []) B hP hS (c_in l E ρ a1.toInt64 10 17 10 17 (by decide) (by decide)) lk_RX7_71 rfl rfl hl.1 (Nat.le_of_ble_eq_true rfl) ⟨Nat.le_of_ble_eq_true rfl, Nat.le_of_ble_eq_true rfl⟩ ⟨Nat.le_of_ble_eq_true rfl, Nat.le_of_ble_eq_true rfl⟩ dX7_count_194) hS (fun r35 ρ36 H locs q37 hP hS => ?_)
                                    obtain ⟨rfl, q37⟩ := q37
                                    rw [lR_i] at q37
                                    rcases q37 with ⟨rfl, q37⟩ | ⟨rfl, q37⟩
                                    · skip
                                      refine lv_if_eq (tgt := 215) hx hb dX7_count_197 (by decide) (fun c38 => absurd c38 (by decide)) (fun _ => ?_)
                                      refine lv_aload_n hx hb dX7_count_200 rfl (lv_at hl 0 rfl) ?_
                                      refine get7 B hP (by decide +kernel) 3 (by decide) mw_1030 rfl dX7_count_201 ?_
                                      refine lv_bipush (v := 11) hx hb dX7_count_204 (by decide) ?_
                                      refine lv_iload_n hx hb dX7_count_206 rfl (lv_at hl 1 rfl) ?_
                                      refine lv_iadd hx hb dX7_count_207 ?_
                                      refine lv_bipush (v := 10) hx hb dX7_count_208 (by decide) ?_
                                      refine lv_isub hx hb dX7_count_210 ?_
                                      obtain ⟨j, hj, ej⟩ := iR_nat q37 (by decide) (by decide)
                                      refine aldf (n := 695) (j := (j + 1)) (v := 0) B hP (by decide +kernel) (by decide +kernel) (by rw [ej]; exact ix_cnt j) (by omega) (by decide) ((congrFun (hM 1078 (by decide)) (j + 1)).trans (r0_row (by omega) (by omega))) dX7_count_211 ?_
                                      refine lv_goto (tgt := 216) hx hb dX7_count_212 (by decide) ?_
                                      exact ret_i B hr hlk hP hS dX7_count_216 (cnt_mid q37)
                                    · skip
                                      refine lv_if_eq (tgt := 215) hx hb dX7_count_197 (by decide) (fun _ => ?_) (fun c39 => absurd c39 (by decide))
                                      refine lv_iconst (v := (-1)) hx hb dX7_count_215 (by decide) ?_
                                      exact ret_i B hr hlk hP hS dX7_count_216 (absurd (show iR a1 10 17 from ⟨by rw [c1]; decide, by rw [c1]; decide⟩) q37)
                                  · skip
                                    rcases sw_step (x := a1) (n := 16) (n' := 17) (by decide) c1 with c1 | c1
                                    · skip
                                      refine lv_tableIn (off := 180) (tgt := 186) hx hb dX7_count_6 (by rw [c1]; decide) (by rw [c1]; decide) (by rw [c1]; decide) (by decide) ?_
                                      refine lv_iload_n hx hb dX7_count_186 rfl (lv_at hl 1 rfl) ?_
                                      refine lv_i2l hx hb dX7_count_187 rfl ?_
                                      refine lv_ldc2 (v := 10) hx hb hown (hts _ mw_1479) dX7_count_188 ?_
                                      refine lv_ldc2 (v := 17) hx hb hown (hts _ mw_1480) dX7_count_191 ?_
                                      refine call_i (cS (av := [.long a1.toInt64, .long 10, .long 17]) (rest := []) B hP hS (c_in l E ρ a1.toInt64 10 17 10 17 (by decide) (by decide)) lk_RX7_71 rfl rfl hl.1 (Nat.le_of_ble_eq_true rfl) ⟨Nat.le_of_ble_eq_true rfl, Nat.le_of_ble_eq_true rfl⟩ ⟨Nat.le_of_ble_eq_true rfl, Nat.le_of_ble_eq_true rfl⟩ dX7_count_194) hS (fun r40 ρ41 H locs q42 hP hS => ?_)
                                      obtain ⟨rfl, q42⟩ := q42
                                      rw [lR_i] at q42
                                      rcases q42 with ⟨rfl, q42⟩ | ⟨rfl, q42⟩
                                      · skip
                                        refine lv_if_eq (tgt := 215) hx hb dX7_count_197 (by decide) (fun c43 => absurd c43 (by decide)) (fun _ => ?_)
                                        refine lv_aload_n hx hb dX7_count_200 rfl (lv_at hl 0 rfl) ?_
                                        refine get7 B hP (by decide +kernel) 3 (by decide) mw_1030 rfl dX7_count_201 ?_
                                        refine lv_bipush (v := 11) hx hb dX7_count_204 (by decide) ?_
                                        refine lv_iload_n hx hb dX7_count_206 rfl (lv_at hl 1 rfl) ?_
                                        refine lv_iadd hx hb dX7_count_207 ?_
                                        refine lv_bipush (v := 10) hx hb dX7_count_208 (by decide) ?_
                                        refine lv_isub hx hb dX7_count_210 ?_
                                        obtain ⟨j, hj, ej⟩ := iR_nat q42 (by decide) (by decide)
                                        refine aldf (n := 695) (j := (j + 1)) (v := 0) B hP (by decide +kernel) (by decide +kernel) (by rw [ej]; exact ix_cnt j) (by omega) (by decide) ((congrFun (hM 1078 (by decide)) (j + 1)).trans (r0_row (by omega) (by omega))) dX7_count_211 ?_
                                        refine lv_goto (tgt := 216) hx hb dX7_count_212 (by decide) ?_
                                        exact ret_i B hr hlk hP hS dX7_count_216 (cnt_mid q42)
                                      · skip
                                        refine lv_if_eq (tgt := 215) hx hb dX7_count_197 (by decide) (fun _ => ?_) (fun c44 => absurd c44 (by decide))
                                        refine lv_iconst (v := (-1)) hx hb dX7_count_215 (by decide) ?_
                                        exact ret_i B hr hlk hP hS dX7_count_216 (absurd (show iR a1 10 17 from ⟨by rw [c1]; decide, by rw [c1]; decide⟩) q42)
                                    · skip
                                      rcases sw_step (x := a1) (n := 17) (n' := 18) (by decide) c1 with c1 | c1
                                      · skip
                                        refine lv_tableIn (off := 180) (tgt := 186) hx hb dX7_count_6 (by rw [c1]; decide) (by rw [c1]; decide) (by rw [c1]; decide) (by decide) ?_
                                        refine lv_iload_n hx hb dX7_count_186 rfl (lv_at hl 1 rfl) ?_
                                        refine lv_i2l hx hb dX7_count_187 rfl ?_
                                        refine lv_ldc2 (v := 10) hx hb hown (hts _ mw_1479) dX7_count_188 ?_
                                        refine lv_ldc2 (v := 17) hx hb hown (hts _ mw_1480) dX7_count_191 ?_
                                        refine call_i (cS (av := [.long a1.toInt64, .long 10, .long 17]) (rest := []) B hP hS (c_in l E ρ a1.toInt64 10 17 10 17 (by decide) (by decide)) lk_RX7_71 rfl rfl hl.1 (Nat.le_of_ble_eq_true rfl) ⟨Nat.le_of_ble_eq_true rfl, Nat.le_of_ble_eq_true rfl⟩ ⟨Nat.le_of_ble_eq_true rfl, Nat.le_of_ble_eq_true rfl⟩ dX7_count_194) hS (fun r45 ρ46 H locs q47 hP hS => ?_)
                                        obtain ⟨rfl, q47⟩ := q47
                                        rw [lR_i] at q47
                                        rcases q47 with ⟨rfl, q47⟩ | ⟨rfl, q47⟩
                                        · skip
                                          refine lv_if_eq (tgt := 215) hx hb dX7_count_197 (by decide) (fun c48 => absurd c48 (by decide)) (fun _ => ?_)
                                          refine lv_aload_n hx hb dX7_count_200 rfl (lv_at hl 0 rfl) ?_
                                          refine get7 B hP (by decide +kernel) 3 (by decide) mw_1030 rfl dX7_count_201 ?_
                                          refine lv_bipush (v := 11) hx hb dX7_count_204 (by decide) ?_
                                          refine lv_iload_n hx hb dX7_count_206 rfl (lv_at hl 1 rfl) ?_
                                          refine lv_iadd hx hb dX7_count_207 ?_
                                          refine lv_bipush (v := 10) hx hb dX7_count_208 (by decide) ?_
                                          refine lv_isub hx hb dX7_count_210 ?_
                                          obtain ⟨j, hj, ej⟩ := iR_nat q47 (by decide) (by decide)
                                          refine aldf (n := 695) (j := (j + 1)) (v := 0) B hP (by decide +kernel) (by decide +kernel) (by rw [ej]; exact ix_cnt j) (by omega) (by decide) ((congrFun (hM 1078 (by decide)) (j + 1)).trans (r0_row (by omega) (by omega))) dX7_count_211 ?_
                                          refine lv_goto (tgt := 216) hx hb dX7_count_212 (by decide) ?_
                                          exact ret_i B hr hlk hP hS dX7_count_216 (cnt_mid q47)
                                        · skip
                                          refine lv_if_eq (tgt := 215) hx hb dX7_count_197 (by decide) (fun _ => ?_) (fun c49 => absurd c49 (by decide))
                                          refine lv_iconst (v := (-1)) hx hb dX7_count_215 (by decide) ?_
                                          exact ret_i B hr hlk hP hS dX7_count_216 (absurd (show iR a1 10 17 from ⟨by rw [c1]; decide, by rw [c1]; decide⟩) q47)
                                      · skip
                                        rcases sw_step (x := a1) (n := 18) (n' := 19) (by decide) c1 with c1 | c1
                                        · skip
                                          refine lv_tableIn (off := 163) (tgt := 169) hx hb dX7_count_6 (by rw [c1]; decide) (by rw [c1]; decide) (by rw [c1]; decide) (by decide) ?_
                                          refine lv_aload_n hx hb dX7_count_169 rfl (lv_at hl 0 rfl) ?_
                                          refine get7 B hP (by decide +kernel) 3 (by decide) mw_1030 rfl dX7_count_170 ?_
                                          refine lv_bipush (v := 10) hx hb dX7_count_173 (by decide) ?_
                                          refine aldf (n := 695) (j := 10) (v := 2) B hP (by decide +kernel) (by decide +kernel) rfl (by decide) (by decide) ((congrFun (hM 1078 (by decide)) 10).trans (show r0 1078 10 = 2 by decide +kernel)) dX7_count_175 ?_
                                          exact ret_i B hr hlk hP hS dX7_count_176 ((by rw [c1]; decide))
                                        · skip
                                          have c1 := sw_last (n := 19) c1
                                          refine lv_tableIn (off := 171) (tgt := 177) hx hb dX7_count_6 (by rw [c1]; decide) (by rw [c1]; decide) (by rw [c1]; decide) (by decide) ?_
                                          refine lv_aload_n hx hb dX7_count_177 rfl (lv_at hl 0 rfl) ?_
                                          refine get7 B hP (by decide +kernel) 3 (by decide) mw_1030 rfl dX7_count_178 ?_
                                          refine lv_sipush (v := 694) hx hb dX7_count_181 (by decide) ?_
                                          refine aldf (n := 695) (j := 694) (v := 0) B hP (by decide +kernel) (by decide +kernel) rfl (by decide) (by decide) ((congrFun (hM 1078 (by decide)) 694).trans (show r0 1078 694 = 0 by decide +kernel)) dX7_count_184 ?_
                                          exact ret_i B hr hlk hP hS dX7_count_185 ((by rw [c1]; decide))

theorem lk_RX7_263 : LkV RX7 263 RX7 yX7_canTurn cX7_canTurn 2 (some .boolean) 1 := ⟨⟨mw_1418, mw_1420, mw_44, mw_59, mw_1421⟩, by decide +kernel⟩
theorem lk_RX7_280 : LkV RX7 280 RX7 yX7_tries cX7_tries 5 (some .int) 3 := ⟨⟨mw_1455, mw_1457, mw_48, mw_59, mw_1458⟩, by decide +kernel⟩
set_option maxHeartbeats 4000000 in
set_option maxRecDepth 100000 in
theorem c_mwould (l : Launch) (E : hE) (ρ : Nat → Nat → Int32) (a1 a2 a3 : Int32) (hM : MF ρ) : Met l yX7_would (.code yX7_would cX7_would 4 (some .int) :: gw_all) (rmk 5 200) (cPre E ρ [.ref (E.2.1 + 1076), .int a1, .int a2, .int a3]) (cI E (fun r _ => (((iR a1 0 32 ∧ ev a1) ∧ iR a2 1 200 ∧ iR a3 0 2) ∧ r = 0) ∨ (¬ ((iR a1 0 32 ∧ ev a1) ∧ iR a2 1 200 ∧ iR a3 0 2) ∧ r = -1))) 0 0 (hA E) := by
  refine ent (own := RX7) (by decide) rfl (Nat.le_of_ble_eq_true rfl) ?_
  intro p e s m below meth c ls B hr hlk hl hP hS
  have hx := B.1.1
  have hb := B.1.2.1
  have hown := B.1.2.2.2.1
  have hts := B.1.2.2.2.2
  have hl : lv_has ls 4 [(0, .ref (E.2.1 + 1076)), (1, .int a1), (2, .int a2), (3, .int a3)] := hl
  refine lv_aload_n hx hb dX7_would_0 rfl (lv_at hl 0 rfl) ?_
  refine lv_iconst (v := 0) hx hb dX7_would_1 (by decide) ?_
  refine put7 B hP hS (by decide +kernel) 0 (by decide) mw_1027 rfl rfl rfl (fs7_0 E 1076 _ _) dX7_would_2 (fun H locs hP hS => ?_)
  rw [up_self ρ ((congrFun (hM 1076 (by decide)) 0).trans (show r0 1076 0 = 0 by decide +kernel))] at hP
  refine lv_iload_n hx hb dX7_would_5 rfl (lv_at hl 1 rfl) ?_
  refine call_i (cS (av := [.int a1]) (rest := []) B hP hS (c_isShare l E ρ a1) lk_RX7_138 rfl rfl hl.1 (Nat.le_of_ble_eq_true rfl) ⟨Nat.le_of_ble_eq_true rfl, Nat.le_of_ble_eq_true rfl⟩ ⟨Nat.le_of_ble_eq_true rfl, Nat.le_of_ble_eq_true rfl⟩ dX7_would_6) hS (fun r1 ρ2 H locs q3 hP hS => ?_)
  obtain ⟨rfl, q3⟩ := q3
  rcases q3 with ⟨rfl, q3⟩ | ⟨rfl, q3⟩
  · skip
    refine lv_if_eq (tgt := 42) hx hb dX7_would_9 (by decide) (fun c4 => absurd c4 (by decide)) (fun _ => ?_)
    refine lv_aload_n hx hb dX7_would_12 rfl (lv_at hl 0 rfl) ?_
    refine lv_iload_n hx hb dX7_would_13 rfl (lv_at hl 2 rfl) ?_
    refine call_i (cVt (k := 1076) (av := [.int a2]) (rest := []) B hP hS (c_canTurn l E ρ a2 ((congrFun (hM 1078 (by decide)) 7).trans (show r0 1078 7 = 0 by decide +kernel))) lk_RX7_263 (hrecv (ci := 7) B hP (hk_lt (c := 7) (by decide +kernel) (by decide)) (hcc7 _ _ (by decide +kernel)) rfl) rfl rfl hl.1 (Nat.le_of_ble_eq_true rfl) ⟨Nat.le_of_ble_eq_true rfl, Nat.le_of_ble_eq_true rfl⟩ ⟨Nat.le_of_ble_eq_true rfl, Nat.le_of_ble_eq_true rfl⟩ dX7_would_14) hS (fun r5 ρ6 H locs q7 hP hS => ?_)
    obtain ⟨rfl, q7⟩ := q7
    rcases q7 with ⟨rfl, q7⟩ | ⟨rfl, q7⟩
    · skip
      have hn := q7
      obtain ⟨N, hN, rfl⟩ := iR_nat hn (by decide) (by decide)
      refine lv_if_eq (tgt := 42) hx hb dX7_would_17 (by decide) (fun c8 => absurd c8 (by decide)) (fun _ => ?_)
      refine lv_iload_n hx hb dX7_would_20 rfl (lv_at hl 3 rfl) ?_
      refine lv_i2l hx hb dX7_would_21 rfl ?_
      refine lv_lconst (v := 0) hx hb dX7_would_22 (by decide) ?_
      refine lv_ldc2 (v := 2) hx hb hown (hts _ mw_1192) dX7_would_23 ?_
      refine call_i (cS (av := [.long a3.toInt64, .long 0, .long 2]) (rest := []) B hP hS (c_in l E ρ a3.toInt64 0 2 0 2 (by decide) (by decide)) lk_RX7_71 rfl rfl hl.1 (Nat.le_of_ble_eq_true rfl) ⟨Nat.le_of_ble_eq_true rfl, Nat.le_of_ble_eq_true rfl⟩ ⟨Nat.le_of_ble_eq_true rfl, Nat.le_of_ble_eq_true rfl⟩ dX7_would_26) hS (fun r9 ρ10 H locs q11 hP hS => ?_)
      obtain ⟨rfl, q11⟩ := q11
      rw [lR_i] at q11
      rcases q11 with ⟨rfl, q11⟩ | ⟨rfl, q11⟩
      · skip
        refine lv_if_eq (tgt := 42) hx hb dX7_would_29 (by decide) (fun c12 => absurd c12 (by decide)) (fun _ => ?_)
        refine lv_aload_n hx hb dX7_would_32 rfl (lv_at hl 0 rfl) ?_
        refine lv_iload_n hx hb dX7_would_33 rfl (lv_at hl 1 rfl) ?_
        refine lv_iload_n hx hb dX7_would_34 rfl (lv_at hl 2 rfl) ?_
        refine lv_iload_n hx hb dX7_would_35 rfl (lv_at hl 3 rfl) ?_
        refine call_i (cVt (k := 1076) (av := [.int a1, .int (nI N), .int a3]) (rest := []) B hP hS (c_tries l E ρ a1 N a3 ⟨((congrFun (hM 1078 (by decide)) 42).trans (show r0 1078 42 = (-1) by decide +kernel)), ((congrFun (hM 1078 (by decide)) 368).trans (show r0 1078 368 = (-1) by decide +kernel))⟩ (by omega)) lk_RX7_280 (hrecv (ci := 7) B hP (hk_lt (c := 7) (by decide +kernel) (by decide)) (hcc7 _ _ (by decide +kernel)) rfl) rfl rfl hl.1 (Nat.le_of_ble_eq_true rfl) ⟨Nat.le_of_ble_eq_true rfl, Nat.le_of_ble_eq_true rfl⟩ ⟨Nat.le_of_ble_eq_true rfl, Nat.le_of_ble_eq_true rfl⟩ dX7_would_36) hS (fun r13 ρ14 H locs q15 hP hS => ?_)
        obtain ⟨rfl, q15⟩ := q15
        refine lv_goto (tgt := 43) hx hb dX7_would_39 (by decide) ?_
        exact ret_i B hr hlk hP hS dX7_would_43 (Or.inl ⟨⟨q3, hn, q11⟩, rfl⟩)
      · skip
        refine lv_if_eq (tgt := 42) hx hb dX7_would_29 (by decide) (fun _ => ?_) (fun c16 => absurd c16 (by decide))
        refine lv_iconst (v := (-1)) hx hb dX7_would_42 (by decide) ?_
        exact ret_i B hr hlk hP hS dX7_would_43 (Or.inr ⟨fun z => q11 z.2.2, rfl⟩)
    · skip
      refine lv_if_eq (tgt := 42) hx hb dX7_would_17 (by decide) (fun _ => ?_) (fun c17 => absurd c17 (by decide))
      refine lv_iconst (v := (-1)) hx hb dX7_would_42 (by decide) ?_
      exact ret_i B hr hlk hP hS dX7_would_43 (Or.inr ⟨fun z => q7 z.2.1, rfl⟩)
  · skip
    refine lv_if_eq (tgt := 42) hx hb dX7_would_9 (by decide) (fun _ => ?_) (fun c18 => absurd c18 (by decide))
    refine lv_iconst (v := (-1)) hx hb dX7_would_42 (by decide) ?_
    exact ret_i B hr hlk hP hS dX7_would_43 (Or.inr ⟨fun z => q3 z.1, rfl⟩)

set_option maxHeartbeats 4000000 in
set_option maxRecDepth 100000 in
theorem c_mbestShare (l : Launch) (E : hE) (ρ : Nat → Nat → Int32) (a1 : Int32) (hM : MF ρ) : Met l yX7_bestShare (.code yX7_bestShare cX7_bestShare 6 (some .int) :: gw_all) (rmk 5 200) (cPre E ρ [.ref (E.2.1 + 1076), .int a1]) (cI E (fun r _ => ((iR a1 1 32) ∧ r = 0) ∨ (¬ (iR a1 1 32) ∧ r = -1))) 0 0 (hA E) := by
  refine ent (own := RX7) (by decide) rfl (Nat.le_of_ble_eq_true rfl) ?_
  intro p e s m below meth c ls B hr hlk hl hP hS
  have hx := B.1.1
  have hb := B.1.2.1
  have hown := B.1.2.2.2.1
  have hts := B.1.2.2.2.2
  have hl : lv_has ls 6 [(0, .ref (E.2.1 + 1076)), (1, .int a1)] := hl
  refine lv_aload_n hx hb dX7_bestShare_0 rfl (lv_at hl 0 rfl) ?_
  refine lv_iconst (v := 0) hx hb dX7_bestShare_1 (by decide) ?_
  refine put7 B hP hS (by decide +kernel) 0 (by decide) mw_1027 rfl rfl rfl (fs7_0 E 1076 _ _) dX7_bestShare_2 (fun H locs hP hS => ?_)
  rw [up_self ρ ((congrFun (hM 1076 (by decide)) 0).trans (show r0 1076 0 = 0 by decide +kernel))] at hP
  refine lv_iload_n hx hb dX7_bestShare_5 rfl (lv_at hl 1 rfl) ?_
  refine lv_i2l hx hb dX7_bestShare_6 rfl ?_
  refine lv_lconst (v := 1) hx hb dX7_bestShare_7 (by decide) ?_
  refine lv_ldc2 (v := 32) hx hb hown (hts _ mw_1197) dX7_bestShare_8 ?_
  refine call_i (cS (av := [.long a1.toInt64, .long 1, .long 32]) (rest := []) B hP hS (c_in l E ρ a1.toInt64 1 32 1 32 (by decide) (by decide)) lk_RX7_71 rfl rfl hl.1 (Nat.le_of_ble_eq_true rfl) ⟨Nat.le_of_ble_eq_true rfl, Nat.le_of_ble_eq_true rfl⟩ ⟨Nat.le_of_ble_eq_true rfl, Nat.le_of_ble_eq_true rfl⟩ dX7_bestShare_11) hS (fun r1 ρ2 H locs q3 hP hS => ?_)
  obtain ⟨rfl, q3⟩ := q3
  rw [lR_i] at q3
  rcases q3 with ⟨rfl, q3⟩ | ⟨rfl, q3⟩
  · skip
    have hn := q3
    obtain ⟨N, hN, rfl⟩ := iR_nat hn (by decide) (by decide)
    refine lv_if_eq (tgt := 25) hx hb dX7_bestShare_14 (by decide) (fun c4 => absurd c4 (by decide)) (fun _ => ?_)
    refine lv_aload_n hx hb dX7_bestShare_17 rfl (lv_at hl 0 rfl) ?_
    refine lv_iload_n hx hb dX7_bestShare_18 rfl (lv_at hl 1 rfl) ?_
    refine call_i (cVt (k := 1076) (av := [.int (nI N)]) (rest := []) B hP hS (c_canTurn l E ρ (nI N) ((congrFun (hM 1078 (by decide)) 7).trans (show r0 1078 7 = 0 by decide +kernel))) lk_RX7_263 (hrecv (ci := 7) B hP (hk_lt (c := 7) (by decide +kernel) (by decide)) (hcc7 _ _ (by decide +kernel)) rfl) rfl rfl hl.1 (Nat.le_of_ble_eq_true rfl) ⟨Nat.le_of_ble_eq_true rfl, Nat.le_of_ble_eq_true rfl⟩ ⟨Nat.le_of_ble_eq_true rfl, Nat.le_of_ble_eq_true rfl⟩ dX7_bestShare_19) hS (fun r5 ρ6 H locs q7 hP hS => ?_)
    obtain ⟨rfl, q7⟩ := q7
    obtain rfl : r5 = 1 := q7.elim (fun z => z.1) (fun z => absurd ⟨hn.1, by have := hn.2; omega⟩ z.2)
    refine lv_if_ne (tgt := 27) hx hb dX7_bestShare_22 (by decide) (fun _ => ?_) (fun c8 => absurd c8 (by decide))
    refine lv_iconst (v := (-1)) hx hb dX7_bestShare_27 (by decide) ?_
    refine lv_istore_n (lv' := [(2, .int (-1)), (0, .ref (E.2.1 + 1076)), (1, .int (nI N))]) hx hb dX7_bestShare_28 rfl hl (by decide) rfl (fun ls hl => ?_)
    refine lv_iconst (v := (-1)) hx hb dX7_bestShare_29 (by decide) ?_
    refine lv_istore_n (lv' := [(3, .int (-1)), (2, .int (-1)), (0, .ref (E.2.1 + 1076)), (1, .int (nI N))]) hx hb dX7_bestShare_30 rfl hl (by decide) rfl (fun ls hl => ?_)
    refine lv_iconst (v := 0) hx hb dX7_bestShare_31 (by decide) ?_
    refine lv_istore (lv' := [(4, .int 0), (3, .int (-1)), (2, .int (-1)), (0, .ref (E.2.1 + 1076)), (1, .int (nI N))]) hx hb dX7_bestShare_32 hl (by decide) rfl (fun ls hl => ?_)
    refine lv_iload hx hb dX7_bestShare_34 (lv_at hl 0 rfl) ?_
    refine lv_bipush (v := 32) hx hb dX7_bestShare_36 (by decide) ?_
    refine lv_icmp_gt (tgt := 83) hx hb dX7_bestShare_38 (by decide) (fun c9 => absurd c9 (by decide)) (fun _ => ?_)
    refine lv_aload_n hx hb dX7_bestShare_41 rfl (lv_at hl 3 rfl) ?_
    refine lv_iload hx hb dX7_bestShare_42 (lv_at hl 0 rfl) ?_
    refine lv_iload_n hx hb dX7_bestShare_44 rfl (lv_at hl 4 rfl) ?_
    refine lv_iconst (v := 0) hx hb dX7_bestShare_45 (by decide) ?_
    refine call_i (cVt (k := 1076) (av := [.int 0, .int (nI N), .int 0]) (rest := []) B hP hS (c_tries l E ρ 0 N 0 ⟨((congrFun (hM 1078 (by decide)) 42).trans (show r0 1078 42 = (-1) by decide +kernel)), ((congrFun (hM 1078 (by decide)) 368).trans (show r0 1078 368 = (-1) by decide +kernel))⟩ (by omega)) lk_RX7_280 (hrecv (ci := 7) B hP (hk_lt (c := 7) (by decide +kernel) (by decide)) (hcc7 _ _ (by decide +kernel)) rfl) rfl rfl hl.1 (Nat.le_of_ble_eq_true rfl) ⟨Nat.le_of_ble_eq_true rfl, Nat.le_of_ble_eq_true rfl⟩ ⟨Nat.le_of_ble_eq_true rfl, Nat.le_of_ble_eq_true rfl⟩ dX7_bestShare_46) hS (fun r10 ρ11 H locs q12 hP hS => ?_)
    obtain ⟨rfl, q12⟩ := q12
    refine lv_istore (lv' := [(5, .int 0), (4, .int 0), (3, .int (-1)), (2, .int (-1)), (0, .ref (E.2.1 + 1076)), (1, .int (nI N))]) hx hb dX7_bestShare_49 hl (by decide) rfl (fun ls hl => ?_)
    refine lv_iload hx hb dX7_bestShare_51 (lv_at hl 0 rfl) ?_
    refine lv_iload_n hx hb dX7_bestShare_53 rfl (lv_at hl 2 rfl) ?_
    refine lv_icmp_le (tgt := 62) hx hb dX7_bestShare_54 (by decide) (fun c13 => absurd c13 (by decide)) (fun _ => ?_)
    refine lv_iload hx hb dX7_bestShare_57 (lv_at hl 1 rfl) ?_
    refine lv_goto (tgt := 63) hx hb dX7_bestShare_59 (by decide) ?_
    refine lv_istore_n (lv' := [(2, .int 0), (5, .int 0), (4, .int 0), (3, .int (-1)), (0, .ref (E.2.1 + 1076)), (1, .int (nI N))]) hx hb dX7_bestShare_63 rfl hl (by decide) rfl (fun ls hl => ?_)
    refine lv_iload hx hb dX7_bestShare_64 (lv_at hl 1 rfl) ?_
    refine lv_iload_n hx hb dX7_bestShare_66 rfl (lv_at hl 3 rfl) ?_
    refine lv_icmp_le (tgt := 75) hx hb dX7_bestShare_67 (by decide) (fun c14 => absurd c14 (by decide)) (fun _ => ?_)
    refine lv_iload hx hb dX7_bestShare_70 (lv_at hl 1 rfl) ?_
    refine lv_goto (tgt := 76) hx hb dX7_bestShare_72 (by decide) ?_
    refine lv_istore_n (lv' := [(3, .int 0), (2, .int 0), (5, .int 0), (4, .int 0), (0, .ref (E.2.1 + 1076)), (1, .int (nI N))]) hx hb dX7_bestShare_76 rfl hl (by decide) rfl (fun ls hl => ?_)
    refine lv_iinc (v := 2) (lv' := [(4, .int 2), (3, .int 0), (2, .int 0), (5, .int 0), (0, .ref (E.2.1 + 1076)), (1, .int (nI N))]) hx hb dX7_bestShare_77 hl (k := 3) rfl (by decide) (by decide) rfl (fun ls hl => ?_)
    refine lv_goto (tgt := 34) hx hb dX7_bestShare_80 (by decide) ?_
    refine lv_iload hx hb dX7_bestShare_34 (lv_at hl 0 rfl) ?_
    refine lv_bipush (v := 32) hx hb dX7_bestShare_36 (by decide) ?_
    refine lv_icmp_gt (tgt := 83) hx hb dX7_bestShare_38 (by decide) (fun c15 => absurd c15 (by decide)) (fun _ => ?_)
    refine lv_aload_n hx hb dX7_bestShare_41 rfl (lv_at hl 4 rfl) ?_
    refine lv_iload hx hb dX7_bestShare_42 (lv_at hl 0 rfl) ?_
    refine lv_iload_n hx hb dX7_bestShare_44 rfl (lv_at hl 5 rfl) ?_
    refine lv_iconst (v := 0) hx hb dX7_bestShare_45 (by decide) ?_
    refine call_i (cVt (k := 1076) (av := [.int 2, .int (nI N), .int 0]) (rest := []) B hP hS (c_tries l E ρ11 2 N 0 ⟨((q12 42 (by decide)).trans ((congrFun (hM 1078 (by decide)) 42).trans (show r0 1078 42 = (-1) by decide +kernel))), ((q12 368 (by decide)).trans ((congrFun (hM 1078 (by decide)) 368).trans (show r0 1078 368 = (-1) by decide +kernel)))⟩ (by omega)) lk_RX7_280 (hrecv (ci := 7) B hP (hk_lt (c := 7) (by decide +kernel) (by decide)) (hcc7 _ _ (by decide +kernel)) rfl) rfl rfl hl.1 (Nat.le_of_ble_eq_true rfl) ⟨Nat.le_of_ble_eq_true rfl, Nat.le_of_ble_eq_true rfl⟩ ⟨Nat.le_of_ble_eq_true rfl, Nat.le_of_ble_eq_true rfl⟩ dX7_bestShare_46) hS (fun r16 ρ17 H locs q18 hP hS => ?_)
    obtain ⟨rfl, q18⟩ := q18
    refine lv_istore (lv' := [(5, .int 0), (4, .int 2), (3, .int 0), (2, .int 0), (0, .ref (E.2.1 + 1076)), (1, .int (nI N))]) hx hb dX7_bestShare_49 hl (by decide) rfl (fun ls hl => ?_)
    refine lv_iload hx hb dX7_bestShare_51 (lv_at hl 0 rfl) ?_
    refine lv_iload_n hx hb dX7_bestShare_53 rfl (lv_at hl 2 rfl) ?_
    refine lv_icmp_le (tgt := 62) hx hb dX7_bestShare_54 (by decide) (fun _ => ?_) (fun c19 => absurd c19 (by decide))
    refine lv_iload_n hx hb dX7_bestShare_62 rfl (lv_at hl 3 rfl) ?_
    refine lv_istore_n (lv' := [(2, .int 0), (5, .int 0), (4, .int 2), (3, .int 0), (0, .ref (E.2.1 + 1076)), (1, .int (nI N))]) hx hb dX7_bestShare_63 rfl hl (by decide) rfl (fun ls hl => ?_)
    refine lv_iload hx hb dX7_bestShare_64 (lv_at hl 1 rfl) ?_
    refine lv_iload_n hx hb dX7_bestShare_66 rfl (lv_at hl 3 rfl) ?_
    refine lv_icmp_le (tgt := 75) hx hb dX7_bestShare_67 (by decide) (fun _ => ?_) (fun c20 => absurd c20 (by decide))
    refine lv_iload_n hx hb dX7_bestShare_75 rfl (lv_at hl 3 rfl) ?_
    refine lv_istore_n (lv' := [(3, .int 0), (2, .int 0), (5, .int 0), (4, .int 2), (0, .ref (E.2.1 + 1076)), (1, .int (nI N))]) hx hb dX7_bestShare_76 rfl hl (by decide) rfl (fun ls hl => ?_)
    refine lv_iinc (v := 4) (lv' := [(4, .int 4), (3, .int 0), (2, .int 0), (5, .int 0), (0, .ref (E.2.1 + 1076)), (1, .int (nI N))]) hx hb dX7_bestShare_77 hl (k := 3) rfl (by decide) (by decide) rfl (fun ls hl => ?_)
    refine lv_goto (tgt := 34) hx hb dX7_bestShare_80 (by decide) ?_
    refine lv_iload hx hb dX7_bestShare_34 (lv_at hl 0 rfl) ?_
    refine lv_bipush (v := 32) hx hb dX7_bestShare_36 (by decide) ?_
    refine lv_icmp_gt (tgt := 83) hx hb dX7_bestShare_38 (by decide) (fun c21 => absurd c21 (by decide)) (fun _ => ?_)
    refine lv_aload_n hx hb dX7_bestShare_41 rfl (lv_at hl 4 rfl) ?_
    refine lv_iload hx hb dX7_bestShare_42 (lv_at hl 0 rfl) ?_
    refine lv_iload_n hx hb dX7_bestShare_44 rfl (lv_at hl 5 rfl) ?_
    refine lv_iconst (v := 0) hx hb dX7_bestShare_45 (by decide) ?_
    refine call_i (cVt (k := 1076) (av := [.int 4, .int (nI N), .int 0]) (rest := []) B hP hS (c_tries l E ρ17 4 N 0 ⟨((q18 42 (by decide)).trans ((q12 42 (by decide)).trans ((congrFun (hM 1078 (by decide)) 42).trans (show r0 1078 42 = (-1) by decide +kernel)))), ((q18 368 (by decide)).trans ((q12 368 (by decide)).trans ((congrFun (hM 1078 (by decide)) 368).trans (show r0 1078 368 = (-1) by decide +kernel))))⟩ (by omega)) lk_RX7_280 (hrecv (ci := 7) B hP (hk_lt (c := 7) (by decide +kernel) (by decide)) (hcc7 _ _ (by decide +kernel)) rfl) rfl rfl hl.1 (Nat.le_of_ble_eq_true rfl) ⟨Nat.le_of_ble_eq_true rfl, Nat.le_of_ble_eq_true rfl⟩ ⟨Nat.le_of_ble_eq_true rfl, Nat.le_of_ble_eq_true rfl⟩ dX7_bestShare_46) hS (fun r22 ρ23 H locs q24 hP hS => ?_)
    obtain ⟨rfl, q24⟩ := q24
    refine lv_istore (lv' := [(5, .int 0), (4, .int 4), (3, .int 0), (2, .int 0), (0, .ref (E.2.1 + 1076)), (1, .int (nI N))]) hx hb dX7_bestShare_49 hl (by decide) rfl (fun ls hl => ?_)
    refine lv_iload hx hb dX7_bestShare_51 (lv_at hl 0 rfl) ?_
    refine lv_iload_n hx hb dX7_bestShare_53 rfl (lv_at hl 2 rfl) ?_
    refine lv_icmp_le (tgt := 62) hx hb dX7_bestShare_54 (by decide) (fun _ => ?_) (fun c25 => absurd c25 (by decide))
    refine lv_iload_n hx hb dX7_bestShare_62 rfl (lv_at hl 3 rfl) ?_
    refine lv_istore_n (lv' := [(2, .int 0), (5, .int 0), (4, .int 4), (3, .int 0), (0, .ref (E.2.1 + 1076)), (1, .int (nI N))]) hx hb dX7_bestShare_63 rfl hl (by decide) rfl (fun ls hl => ?_)
    refine lv_iload hx hb dX7_bestShare_64 (lv_at hl 1 rfl) ?_
    refine lv_iload_n hx hb dX7_bestShare_66 rfl (lv_at hl 3 rfl) ?_
    refine lv_icmp_le (tgt := 75) hx hb dX7_bestShare_67 (by decide) (fun _ => ?_) (fun c26 => absurd c26 (by decide))
    refine lv_iload_n hx hb dX7_bestShare_75 rfl (lv_at hl 3 rfl) ?_
    refine lv_istore_n (lv' := [(3, .int 0), (2, .int 0), (5, .int 0), (4, .int 4), (0, .ref (E.2.1 + 1076)), (1, .int (nI N))]) hx hb dX7_bestShare_76 rfl hl (by decide) rfl (fun ls hl => ?_)
    refine lv_iinc (v := 6) (lv' := [(4, .int 6), (3, .int 0), (2, .int 0), (5, .int 0), (0, .ref (E.2.1 + 1076)), (1, .int (nI N))]) hx hb dX7_bestShare_77 hl (k := 3) rfl (by decide) (by decide) rfl (fun ls hl => ?_)
    refine lv_goto (tgt := 34) hx hb dX7_bestShare_80 (by decide) ?_
    refine lv_iload hx hb dX7_bestShare_34 (lv_at hl 0 rfl) ?_
    refine lv_bipush (v := 32) hx hb dX7_bestShare_36 (by decide) ?_
    refine lv_icmp_gt (tgt := 83) hx hb dX7_bestShare_38 (by decide) (fun c27 => absurd c27 (by decide)) (fun _ => ?_)
    refine lv_aload_n hx hb dX7_bestShare_41 rfl (lv_at hl 4 rfl) ?_
    refine lv_iload hx hb dX7_bestShare_42 (lv_at hl 0 rfl) ?_
    refine lv_iload_n hx hb dX7_bestShare_44 rfl (lv_at hl 5 rfl) ?_
    refine lv_iconst (v := 0) hx hb dX7_bestShare_45 (by decide) ?_
    refine call_i (cVt (k := 1076) (av := [.int 6, .int (nI N), .int 0]) (rest := []) B hP hS (c_tries l E ρ23 6 N 0 ⟨((q24 42 (by decide)).trans ((q18 42 (by decide)).trans ((q12 42 (by decide)).trans ((congrFun (hM 1078 (by decide)) 42).trans (show r0 1078 42 = (-1) by decide +kernel))))), ((q24 368 (by decide)).trans ((q18 368 (by decide)).trans ((q12 368 (by decide)).trans ((congrFun (hM 1078 (by decide)) 368).trans (show r0 1078 368 = (-1) by decide +kernel)))))⟩ (by omega)) lk_RX7_280 (hrecv (ci := 7) B hP (hk_lt (c := 7) (by decide +kernel) (by decide)) (hcc7 _ _ (by decide +kernel)) rfl) rfl rfl hl.1 (Nat.le_of_ble_eq_true rfl) ⟨Nat.le_of_ble_eq_true rfl, Nat.le_of_ble_eq_true rfl⟩ ⟨Nat.le_of_ble_eq_true rfl, Nat.le_of_ble_eq_true rfl⟩ dX7_bestShare_46) hS (fun r28 ρ29 H locs q30 hP hS => ?_)
    obtain ⟨rfl, q30⟩ := q30
    refine lv_istore (lv' := [(5, .int 0), (4, .int 6), (3, .int 0), (2, .int 0), (0, .ref (E.2.1 + 1076)), (1, .int (nI N))]) hx hb dX7_bestShare_49 hl (by decide) rfl (fun ls hl => ?_)
    refine lv_iload hx hb dX7_bestShare_51 (lv_at hl 0 rfl) ?_
    refine lv_iload_n hx hb dX7_bestShare_53 rfl (lv_at hl 2 rfl) ?_
    refine lv_icmp_le (tgt := 62) hx hb dX7_bestShare_54 (by decide) (fun _ => ?_) (fun c31 => absurd c31 (by decide))
    refine lv_iload_n hx hb dX7_bestShare_62 rfl (lv_at hl 3 rfl) ?_
    refine lv_istore_n (lv' := [(2, .int 0), (5, .int 0), (4, .int 6), (3, .int 0), (0, .ref (E.2.1 + 1076)), (1, .int (nI N))]) hx hb dX7_bestShare_63 rfl hl (by decide) rfl (fun ls hl => ?_)
    refine lv_iload hx hb dX7_bestShare_64 (lv_at hl 1 rfl) ?_
    refine lv_iload_n hx hb dX7_bestShare_66 rfl (lv_at hl 3 rfl) ?_
    refine lv_icmp_le (tgt := 75) hx hb dX7_bestShare_67 (by decide) (fun _ => ?_) (fun c32 => absurd c32 (by decide))
    refine lv_iload_n hx hb dX7_bestShare_75 rfl (lv_at hl 3 rfl) ?_
    refine lv_istore_n (lv' := [(3, .int 0), (2, .int 0), (5, .int 0), (4, .int 6), (0, .ref (E.2.1 + 1076)), (1, .int (nI N))]) hx hb dX7_bestShare_76 rfl hl (by decide) rfl (fun ls hl => ?_)
    refine lv_iinc (v := 8) (lv' := [(4, .int 8), (3, .int 0), (2, .int 0), (5, .int 0), (0, .ref (E.2.1 + 1076)), (1, .int (nI N))]) hx hb dX7_bestShare_77 hl (k := 3) rfl (by decide) (by decide) rfl (fun ls hl => ?_)
    refine lv_goto (tgt := 34) hx hb dX7_bestShare_80 (by decide) ?_
    refine lv_iload hx hb dX7_bestShare_34 (lv_at hl 0 rfl) ?_
    refine lv_bipush (v := 32) hx hb dX7_bestShare_36 (by decide) ?_
    refine lv_icmp_gt (tgt := 83) hx hb dX7_bestShare_38 (by decide) (fun c33 => absurd c33 (by decide)) (fun _ => ?_)
    refine lv_aload_n hx hb dX7_bestShare_41 rfl (lv_at hl 4 rfl) ?_
    refine lv_iload hx hb dX7_bestShare_42 (lv_at hl 0 rfl) ?_
    refine lv_iload_n hx hb dX7_bestShare_44 rfl (lv_at hl 5 rfl) ?_
    refine lv_iconst (v := 0) hx hb dX7_bestShare_45 (by decide) ?_
    refine call_i (cVt (k := 1076) (av := [.int 8, .int (nI N), .int 0]) (rest := []) B hP hS (c_tries l E ρ29 8 N 0 ⟨((q30 42 (by decide)).trans ((q24 42 (by decide)).trans ((q18 42 (by decide)).trans ((q12 42 (by decide)).trans ((congrFun (hM 1078 (by decide)) 42).trans (show r0 1078 42 = (-1) by decide +kernel)))))), ((q30 368 (by decide)).trans ((q24 368 (by decide)).trans ((q18 368 (by decide)).trans ((q12 368 (by decide)).trans ((congrFun (hM 1078 (by decide)) 368).trans (show r0 1078 368 = (-1) by decide +kernel))))))⟩ (by omega)) lk_RX7_280 (hrecv (ci := 7) B hP (hk_lt (c := 7) (by decide +kernel) (by decide)) (hcc7 _ _ (by decide +kernel)) rfl) rfl rfl hl.1 (Nat.le_of_ble_eq_true rfl) ⟨Nat.le_of_ble_eq_true rfl, Nat.le_of_ble_eq_true rfl⟩ ⟨Nat.le_of_ble_eq_true rfl, Nat.le_of_ble_eq_true rfl⟩ dX7_bestShare_46) hS (fun r34 ρ35 H locs q36 hP hS => ?_)
    obtain ⟨rfl, q36⟩ := q36
    refine lv_istore (lv' := [(5, .int 0), (4, .int 8), (3, .int 0), (2, .int 0), (0, .ref (E.2.1 + 1076)), (1, .int (nI N))]) hx hb dX7_bestShare_49 hl (by decide) rfl (fun ls hl => ?_)
    refine lv_iload hx hb dX7_bestShare_51 (lv_at hl 0 rfl) ?_
    refine lv_iload_n hx hb dX7_bestShare_53 rfl (lv_at hl 2 rfl) ?_
    refine lv_icmp_le (tgt := 62) hx hb dX7_bestShare_54 (by decide) (fun _ => ?_) (fun c37 => absurd c37 (by decide))
    refine lv_iload_n hx hb dX7_bestShare_62 rfl (lv_at hl 3 rfl) ?_
    refine lv_istore_n (lv' := [(2, .int 0), (5, .int 0), (4, .int 8), (3, .int 0), (0, .ref (E.2.1 + 1076)), (1, .int (nI N))]) hx hb dX7_bestShare_63 rfl hl (by decide) rfl (fun ls hl => ?_)
    refine lv_iload hx hb dX7_bestShare_64 (lv_at hl 1 rfl) ?_
    refine lv_iload_n hx hb dX7_bestShare_66 rfl (lv_at hl 3 rfl) ?_
    refine lv_icmp_le (tgt := 75) hx hb dX7_bestShare_67 (by decide) (fun _ => ?_) (fun c38 => absurd c38 (by decide))
    refine lv_iload_n hx hb dX7_bestShare_75 rfl (lv_at hl 3 rfl) ?_
    refine lv_istore_n (lv' := [(3, .int 0), (2, .int 0), (5, .int 0), (4, .int 8), (0, .ref (E.2.1 + 1076)), (1, .int (nI N))]) hx hb dX7_bestShare_76 rfl hl (by decide) rfl (fun ls hl => ?_)
    refine lv_iinc (v := 10) (lv' := [(4, .int 10), (3, .int 0), (2, .int 0), (5, .int 0), (0, .ref (E.2.1 + 1076)), (1, .int (nI N))]) hx hb dX7_bestShare_77 hl (k := 3) rfl (by decide) (by decide) rfl (fun ls hl => ?_)
    refine lv_goto (tgt := 34) hx hb dX7_bestShare_80 (by decide) ?_
    refine lv_iload hx hb dX7_bestShare_34 (lv_at hl 0 rfl) ?_
    refine lv_bipush (v := 32) hx hb dX7_bestShare_36 (by decide) ?_
    refine lv_icmp_gt (tgt := 83) hx hb dX7_bestShare_38 (by decide) (fun c39 => absurd c39 (by decide)) (fun _ => ?_)
    refine lv_aload_n hx hb dX7_bestShare_41 rfl (lv_at hl 4 rfl) ?_
    refine lv_iload hx hb dX7_bestShare_42 (lv_at hl 0 rfl) ?_
    refine lv_iload_n hx hb dX7_bestShare_44 rfl (lv_at hl 5 rfl) ?_
    refine lv_iconst (v := 0) hx hb dX7_bestShare_45 (by decide) ?_
    refine call_i (cVt (k := 1076) (av := [.int 10, .int (nI N), .int 0]) (rest := []) B hP hS (c_tries l E ρ35 10 N 0 ⟨((q36 42 (by decide)).trans ((q30 42 (by decide)).trans ((q24 42 (by decide)).trans ((q18 42 (by decide)).trans ((q12 42 (by decide)).trans ((congrFun (hM 1078 (by decide)) 42).trans (show r0 1078 42 = (-1) by decide +kernel))))))), ((q36 368 (by decide)).trans ((q30 368 (by decide)).trans ((q24 368 (by decide)).trans ((q18 368 (by decide)).trans ((q12 368 (by decide)).trans ((congrFun (hM 1078 (by decide)) 368).trans (show r0 1078 368 = (-1) by decide +kernel)))))))⟩ (by omega)) lk_RX7_280 (hrecv (ci := 7) B hP (hk_lt (c := 7) (by decide +kernel) (by decide)) (hcc7 _ _ (by decide +kernel)) rfl) rfl rfl hl.1 (Nat.le_of_ble_eq_true rfl) ⟨Nat.le_of_ble_eq_true rfl, Nat.le_of_ble_eq_true rfl⟩ ⟨Nat.le_of_ble_eq_true rfl, Nat.le_of_ble_eq_true rfl⟩ dX7_bestShare_46) hS (fun r40 ρ41 H locs q42 hP hS => ?_)
    obtain ⟨rfl, q42⟩ := q42
    refine lv_istore (lv' := [(5, .int 0), (4, .int 10), (3, .int 0), (2, .int 0), (0, .ref (E.2.1 + 1076)), (1, .int (nI N))]) hx hb dX7_bestShare_49 hl (by decide) rfl (fun ls hl => ?_)
    refine lv_iload hx hb dX7_bestShare_51 (lv_at hl 0 rfl) ?_
    refine lv_iload_n hx hb dX7_bestShare_53 rfl (lv_at hl 2 rfl) ?_
    refine lv_icmp_le (tgt := 62) hx hb dX7_bestShare_54 (by decide) (fun _ => ?_) (fun c43 => absurd c43 (by decide))
    refine lv_iload_n hx hb dX7_bestShare_62 rfl (lv_at hl 3 rfl) ?_
    refine lv_istore_n (lv' := [(2, .int 0), (5, .int 0), (4, .int 10), (3, .int 0), (0, .ref (E.2.1 + 1076)), (1, .int (nI N))]) hx hb dX7_bestShare_63 rfl hl (by decide) rfl (fun ls hl => ?_)
    refine lv_iload hx hb dX7_bestShare_64 (lv_at hl 1 rfl) ?_
    refine lv_iload_n hx hb dX7_bestShare_66 rfl (lv_at hl 3 rfl) ?_
    refine lv_icmp_le (tgt := 75) hx hb dX7_bestShare_67 (by decide) (fun _ => ?_) (fun c44 => absurd c44 (by decide))
    refine lv_iload_n hx hb dX7_bestShare_75 rfl (lv_at hl 3 rfl) ?_
    refine lv_istore_n (lv' := [(3, .int 0), (2, .int 0), (5, .int 0), (4, .int 10), (0, .ref (E.2.1 + 1076)), (1, .int (nI N))]) hx hb dX7_bestShare_76 rfl hl (by decide) rfl (fun ls hl => ?_)
    refine lv_iinc (v := 12) (lv' := [(4, .int 12), (3, .int 0), (2, .int 0), (5, .int 0), (0, .ref (E.2.1 + 1076)), (1, .int (nI N))]) hx hb dX7_bestShare_77 hl (k := 3) rfl (by decide) (by decide) rfl (fun ls hl => ?_)
    refine lv_goto (tgt := 34) hx hb dX7_bestShare_80 (by decide) ?_
    refine lv_iload hx hb dX7_bestShare_34 (lv_at hl 0 rfl) ?_
    refine lv_bipush (v := 32) hx hb dX7_bestShare_36 (by decide) ?_
    refine lv_icmp_gt (tgt := 83) hx hb dX7_bestShare_38 (by decide) (fun c45 => absurd c45 (by decide)) (fun _ => ?_)
    refine lv_aload_n hx hb dX7_bestShare_41 rfl (lv_at hl 4 rfl) ?_
    refine lv_iload hx hb dX7_bestShare_42 (lv_at hl 0 rfl) ?_
    refine lv_iload_n hx hb dX7_bestShare_44 rfl (lv_at hl 5 rfl) ?_
    refine lv_iconst (v := 0) hx hb dX7_bestShare_45 (by decide) ?_
    refine call_i (cVt (k := 1076) (av := [.int 12, .int (nI N), .int 0]) (rest := []) B hP hS (c_tries l E ρ41 12 N 0 ⟨((q42 42 (by decide)).trans ((q36 42 (by decide)).trans ((q30 42 (by decide)).trans ((q24 42 (by decide)).trans ((q18 42 (by decide)).trans ((q12 42 (by decide)).trans ((congrFun (hM 1078 (by decide)) 42).trans (show r0 1078 42 = (-1) by decide +kernel)))))))), ((q42 368 (by decide)).trans ((q36 368 (by decide)).trans ((q30 368 (by decide)).trans ((q24 368 (by decide)).trans ((q18 368 (by decide)).trans ((q12 368 (by decide)).trans ((congrFun (hM 1078 (by decide)) 368).trans (show r0 1078 368 = (-1) by decide +kernel))))))))⟩ (by omega)) lk_RX7_280 (hrecv (ci := 7) B hP (hk_lt (c := 7) (by decide +kernel) (by decide)) (hcc7 _ _ (by decide +kernel)) rfl) rfl rfl hl.1 (Nat.le_of_ble_eq_true rfl) ⟨Nat.le_of_ble_eq_true rfl, Nat.le_of_ble_eq_true rfl⟩ ⟨Nat.le_of_ble_eq_true rfl, Nat.le_of_ble_eq_true rfl⟩ dX7_bestShare_46) hS (fun r46 ρ47 H locs q48 hP hS => ?_)
    obtain ⟨rfl, q48⟩ := q48
    refine lv_istore (lv' := [(5, .int 0), (4, .int 12), (3, .int 0), (2, .int 0), (0, .ref (E.2.1 + 1076)), (1, .int (nI N))]) hx hb dX7_bestShare_49 hl (by decide) rfl (fun ls hl => ?_)
    refine lv_iload hx hb dX7_bestShare_51 (lv_at hl 0 rfl) ?_
    refine lv_iload_n hx hb dX7_bestShare_53 rfl (lv_at hl 2 rfl) ?_
    refine lv_icmp_le (tgt := 62) hx hb dX7_bestShare_54 (by decide) (fun _ => ?_) (fun c49 => absurd c49 (by decide))
    refine lv_iload_n hx hb dX7_bestShare_62 rfl (lv_at hl 3 rfl) ?_
    refine lv_istore_n (lv' := [(2, .int 0), (5, .int 0), (4, .int 12), (3, .int 0), (0, .ref (E.2.1 + 1076)), (1, .int (nI N))]) hx hb dX7_bestShare_63 rfl hl (by decide) rfl (fun ls hl => ?_)
    refine lv_iload hx hb dX7_bestShare_64 (lv_at hl 1 rfl) ?_
    refine lv_iload_n hx hb dX7_bestShare_66 rfl (lv_at hl 3 rfl) ?_
    refine lv_icmp_le (tgt := 75) hx hb dX7_bestShare_67 (by decide) (fun _ => ?_) (fun c50 => absurd c50 (by decide))
    refine lv_iload_n hx hb dX7_bestShare_75 rfl (lv_at hl 3 rfl) ?_
    refine lv_istore_n (lv' := [(3, .int 0), (2, .int 0), (5, .int 0), (4, .int 12), (0, .ref (E.2.1 + 1076)), (1, .int (nI N))]) hx hb dX7_bestShare_76 rfl hl (by decide) rfl (fun ls hl => ?_)
    refine lv_iinc (v := 14) (lv' := [(4, .int 14), (3, .int 0), (2, .int 0), (5, .int 0), (0, .ref (E.2.1 + 1076)), (1, .int (nI N))]) hx hb dX7_bestShare_77 hl (k := 3) rfl (by decide) (by decide) rfl (fun ls hl => ?_)
    refine lv_goto (tgt := 34) hx hb dX7_bestShare_80 (by decide) ?_
    refine lv_iload hx hb dX7_bestShare_34 (lv_at hl 0 rfl) ?_
    refine lv_bipush (v := 32) hx hb dX7_bestShare_36 (by decide) ?_
    refine lv_icmp_gt (tgt := 83) hx hb dX7_bestShare_38 (by decide) (fun c51 => absurd c51 (by decide)) (fun _ => ?_)
    refine lv_aload_n hx hb dX7_bestShare_41 rfl (lv_at hl 4 rfl) ?_
    refine lv_iload hx hb dX7_bestShare_42 (lv_at hl 0 rfl) ?_
    refine lv_iload_n hx hb dX7_bestShare_44 rfl (lv_at hl 5 rfl) ?_
    refine lv_iconst (v := 0) hx hb dX7_bestShare_45 (by decide) ?_
    refine call_i (cVt (k := 1076) (av := [.int 14, .int (nI N), .int 0]) (rest := []) B hP hS (c_tries l E ρ47 14 N 0 ⟨((q48 42 (by decide)).trans ((q42 42 (by decide)).trans ((q36 42 (by decide)).trans ((q30 42 (by decide)).trans ((q24 42 (by decide)).trans ((q18 42 (by decide)).trans ((q12 42 (by decide)).trans ((congrFun (hM 1078 (by decide)) 42).trans (show r0 1078 42 = (-1) by decide +kernel))))))))), ((q48 368 (by decide)).trans ((q42 368 (by decide)).trans ((q36 368 (by decide)).trans ((q30 368 (by decide)).trans ((q24 368 (by decide)).trans ((q18 368 (by decide)).trans ((q12 368 (by decide)).trans ((congrFun (hM 1078 (by decide)) 368).trans (show r0 1078 368 = (-1) by decide +kernel)))))))))⟩ (by omega)) lk_RX7_280 (hrecv (ci := 7) B hP (hk_lt (c := 7) (by decide +kernel) (by decide)) (hcc7 _ _ (by decide +kernel)) rfl) rfl rfl hl.1 (Nat.le_of_ble_eq_true rfl) ⟨Nat.le_of_ble_eq_true rfl, Nat.le_of_ble_eq_true rfl⟩ ⟨Nat.le_of_ble_eq_true rfl, Nat.le_of_ble_eq_true rfl⟩ dX7_bestShare_46) hS (fun r52 ρ53 H locs q54 hP hS => ?_)
    obtain ⟨rfl, q54⟩ := q54
    refine lv_istore (lv' := [(5, .int 0), (4, .int 14), (3, .int 0), (2, .int 0), (0, .ref (E.2.1 + 1076)), (1, .int (nI N))]) hx hb dX7_bestShare_49 hl (by decide) rfl (fun ls hl => ?_)
    refine lv_iload hx hb dX7_bestShare_51 (lv_at hl 0 rfl) ?_
    refine lv_iload_n hx hb dX7_bestShare_53 rfl (lv_at hl 2 rfl) ?_
    refine lv_icmp_le (tgt := 62) hx hb dX7_bestShare_54 (by decide) (fun _ => ?_) (fun c55 => absurd c55 (by decide))
    refine lv_iload_n hx hb dX7_bestShare_62 rfl (lv_at hl 3 rfl) ?_
    refine lv_istore_n (lv' := [(2, .int 0), (5, .int 0), (4, .int 14), (3, .int 0), (0, .ref (E.2.1 + 1076)), (1, .int (nI N))]) hx hb dX7_bestShare_63 rfl hl (by decide) rfl (fun ls hl => ?_)
    refine lv_iload hx hb dX7_bestShare_64 (lv_at hl 1 rfl) ?_
    refine lv_iload_n hx hb dX7_bestShare_66 rfl (lv_at hl 3 rfl) ?_
    refine lv_icmp_le (tgt := 75) hx hb dX7_bestShare_67 (by decide) (fun _ => ?_) (fun c56 => absurd c56 (by decide))
    refine lv_iload_n hx hb dX7_bestShare_75 rfl (lv_at hl 3 rfl) ?_
    refine lv_istore_n (lv' := [(3, .int 0), (2, .int 0), (5, .int 0), (4, .int 14), (0, .ref (E.2.1 + 1076)), (1, .int (nI N))]) hx hb dX7_bestShare_76 rfl hl (by decide) rfl (fun ls hl => ?_)
    refine lv_iinc (v := 16) (lv' := [(4, .int 16), (3, .int 0), (2, .int 0), (5, .int 0), (0, .ref (E.2.1 + 1076)), (1, .int (nI N))]) hx hb dX7_bestShare_77 hl (k := 3) rfl (by decide) (by decide) rfl (fun ls hl => ?_)
    refine lv_goto (tgt := 34) hx hb dX7_bestShare_80 (by decide) ?_
    refine lv_iload hx hb dX7_bestShare_34 (lv_at hl 0 rfl) ?_
    refine lv_bipush (v := 32) hx hb dX7_bestShare_36 (by decide) ?_
    refine lv_icmp_gt (tgt := 83) hx hb dX7_bestShare_38 (by decide) (fun c57 => absurd c57 (by decide)) (fun _ => ?_)
    refine lv_aload_n hx hb dX7_bestShare_41 rfl (lv_at hl 4 rfl) ?_
    refine lv_iload hx hb dX7_bestShare_42 (lv_at hl 0 rfl) ?_
    refine lv_iload_n hx hb dX7_bestShare_44 rfl (lv_at hl 5 rfl) ?_
    refine lv_iconst (v := 0) hx hb dX7_bestShare_45 (by decide) ?_
    refine call_i (cVt (k := 1076) (av := [.int 16, .int (nI N), .int 0]) (rest := []) B hP hS (c_tries l E ρ53 16 N 0 ⟨((q54 42 (by decide)).trans ((q48 42 (by decide)).trans ((q42 42 (by decide)).trans ((q36 42 (by decide)).trans ((q30 42 (by decide)).trans ((q24 42 (by decide)).trans ((q18 42 (by decide)).trans ((q12 42 (by decide)).trans ((congrFun (hM 1078 (by decide)) 42).trans (show r0 1078 42 = (-1) by decide +kernel)))))))))), ((q54 368 (by decide)).trans ((q48 368 (by decide)).trans ((q42 368 (by decide)).trans ((q36 368 (by decide)).trans ((q30 368 (by decide)).trans ((q24 368 (by decide)).trans ((q18 368 (by decide)).trans ((q12 368 (by decide)).trans ((congrFun (hM 1078 (by decide)) 368).trans (show r0 1078 368 = (-1) by decide +kernel))))))))))⟩ (by omega)) lk_RX7_280 (hrecv (ci := 7) B hP (hk_lt (c := 7) (by decide +kernel) (by decide)) (hcc7 _ _ (by decide +kernel)) rfl) rfl rfl hl.1 (Nat.le_of_ble_eq_true rfl) ⟨Nat.le_of_ble_eq_true rfl, Nat.le_of_ble_eq_true rfl⟩ ⟨Nat.le_of_ble_eq_true rfl, Nat.le_of_ble_eq_true rfl⟩ dX7_bestShare_46) hS (fun r58 ρ59 H locs q60 hP hS => ?_)
    obtain ⟨rfl, q60⟩ := q60
    refine lv_istore (lv' := [(5, .int 0), (4, .int 16), (3, .int 0), (2, .int 0), (0, .ref (E.2.1 + 1076)), (1, .int (nI N))]) hx hb dX7_bestShare_49 hl (by decide) rfl (fun ls hl => ?_)
    refine lv_iload hx hb dX7_bestShare_51 (lv_at hl 0 rfl) ?_
    refine lv_iload_n hx hb dX7_bestShare_53 rfl (lv_at hl 2 rfl) ?_
    refine lv_icmp_le (tgt := 62) hx hb dX7_bestShare_54 (by decide) (fun _ => ?_) (fun c61 => absurd c61 (by decide))
    refine lv_iload_n hx hb dX7_bestShare_62 rfl (lv_at hl 3 rfl) ?_
    refine lv_istore_n (lv' := [(2, .int 0), (5, .int 0), (4, .int 16), (3, .int 0), (0, .ref (E.2.1 + 1076)), (1, .int (nI N))]) hx hb dX7_bestShare_63 rfl hl (by decide) rfl (fun ls hl => ?_)
    refine lv_iload hx hb dX7_bestShare_64 (lv_at hl 1 rfl) ?_
    refine lv_iload_n hx hb dX7_bestShare_66 rfl (lv_at hl 3 rfl) ?_
    refine lv_icmp_le (tgt := 75) hx hb dX7_bestShare_67 (by decide) (fun _ => ?_) (fun c62 => absurd c62 (by decide))
    refine lv_iload_n hx hb dX7_bestShare_75 rfl (lv_at hl 3 rfl) ?_
    refine lv_istore_n (lv' := [(3, .int 0), (2, .int 0), (5, .int 0), (4, .int 16), (0, .ref (E.2.1 + 1076)), (1, .int (nI N))]) hx hb dX7_bestShare_76 rfl hl (by decide) rfl (fun ls hl => ?_)
    refine lv_iinc (v := 18) (lv' := [(4, .int 18), (3, .int 0), (2, .int 0), (5, .int 0), (0, .ref (E.2.1 + 1076)), (1, .int (nI N))]) hx hb dX7_bestShare_77 hl (k := 3) rfl (by decide) (by decide) rfl (fun ls hl => ?_)
    refine lv_goto (tgt := 34) hx hb dX7_bestShare_80 (by decide) ?_
    refine lv_iload hx hb dX7_bestShare_34 (lv_at hl 0 rfl) ?_
    refine lv_bipush (v := 32) hx hb dX7_bestShare_36 (by decide) ?_
    refine lv_icmp_gt (tgt := 83) hx hb dX7_bestShare_38 (by decide) (fun c63 => absurd c63 (by decide)) (fun _ => ?_)
    refine lv_aload_n hx hb dX7_bestShare_41 rfl (lv_at hl 4 rfl) ?_
    refine lv_iload hx hb dX7_bestShare_42 (lv_at hl 0 rfl) ?_
    refine lv_iload_n hx hb dX7_bestShare_44 rfl (lv_at hl 5 rfl) ?_
    refine lv_iconst (v := 0) hx hb dX7_bestShare_45 (by decide) ?_
    refine call_i (cVt (k := 1076) (av := [.int 18, .int (nI N), .int 0]) (rest := []) B hP hS (c_tries l E ρ59 18 N 0 ⟨((q60 42 (by decide)).trans ((q54 42 (by decide)).trans ((q48 42 (by decide)).trans ((q42 42 (by decide)).trans ((q36 42 (by decide)).trans ((q30 42 (by decide)).trans ((q24 42 (by decide)).trans ((q18 42 (by decide)).trans ((q12 42 (by decide)).trans ((congrFun (hM 1078 (by decide)) 42).trans (show r0 1078 42 = (-1) by decide +kernel))))))))))), ((q60 368 (by decide)).trans ((q54 368 (by decide)).trans ((q48 368 (by decide)).trans ((q42 368 (by decide)).trans ((q36 368 (by decide)).trans ((q30 368 (by decide)).trans ((q24 368 (by decide)).trans ((q18 368 (by decide)).trans ((q12 368 (by decide)).trans ((congrFun (hM 1078 (by decide)) 368).trans (show r0 1078 368 = (-1) by decide +kernel)))))))))))⟩ (by omega)) lk_RX7_280 (hrecv (ci := 7) B hP (hk_lt (c := 7) (by decide +kernel) (by decide)) (hcc7 _ _ (by decide +kernel)) rfl) rfl rfl hl.1 (Nat.le_of_ble_eq_true rfl) ⟨Nat.le_of_ble_eq_true rfl, Nat.le_of_ble_eq_true rfl⟩ ⟨Nat.le_of_ble_eq_true rfl, Nat.le_of_ble_eq_true rfl⟩ dX7_bestShare_46) hS (fun r64 ρ65 H locs q66 hP hS => ?_)
    obtain ⟨rfl, q66⟩ := q66
    refine lv_istore (lv' := [(5, .int 0), (4, .int 18), (3, .int 0), (2, .int 0), (0, .ref (E.2.1 + 1076)), (1, .int (nI N))]) hx hb dX7_bestShare_49 hl (by decide) rfl (fun ls hl => ?_)
    refine lv_iload hx hb dX7_bestShare_51 (lv_at hl 0 rfl) ?_
    refine lv_iload_n hx hb dX7_bestShare_53 rfl (lv_at hl 2 rfl) ?_
    refine lv_icmp_le (tgt := 62) hx hb dX7_bestShare_54 (by decide) (fun _ => ?_) (fun c67 => absurd c67 (by decide))
    refine lv_iload_n hx hb dX7_bestShare_62 rfl (lv_at hl 3 rfl) ?_
    refine lv_istore_n (lv' := [(2, .int 0), (5, .int 0), (4, .int 18), (3, .int 0), (0, .ref (E.2.1 + 1076)), (1, .int (nI N))]) hx hb dX7_bestShare_63 rfl hl (by decide) rfl (fun ls hl => ?_)
    refine lv_iload hx hb dX7_bestShare_64 (lv_at hl 1 rfl) ?_
    refine lv_iload_n hx hb dX7_bestShare_66 rfl (lv_at hl 3 rfl) ?_
    refine lv_icmp_le (tgt := 75) hx hb dX7_bestShare_67 (by decide) (fun _ => ?_) (fun c68 => absurd c68 (by decide))
    refine lv_iload_n hx hb dX7_bestShare_75 rfl (lv_at hl 3 rfl) ?_
    refine lv_istore_n (lv' := [(3, .int 0), (2, .int 0), (5, .int 0), (4, .int 18), (0, .ref (E.2.1 + 1076)), (1, .int (nI N))]) hx hb dX7_bestShare_76 rfl hl (by decide) rfl (fun ls hl => ?_)
    refine lv_iinc (v := 20) (lv' := [(4, .int 20), (3, .int 0), (2, .int 0), (5, .int 0), (0, .ref (E.2.1 + 1076)), (1, .int (nI N))]) hx hb dX7_bestShare_77 hl (k := 3) rfl (by decide) (by decide) rfl (fun ls hl => ?_)
    refine lv_goto (tgt := 34) hx hb dX7_bestShare_80 (by decide) ?_
    refine lv_iload hx hb dX7_bestShare_34 (lv_at hl 0 rfl) ?_
    refine lv_bipush (v := 32) hx hb dX7_bestShare_36 (by decide) ?_
    refine lv_icmp_gt (tgt := 83) hx hb dX7_bestShare_38 (by decide) (fun c69 => absurd c69 (by decide)) (fun _ => ?_)
    refine lv_aload_n hx hb dX7_bestShare_41 rfl (lv_at hl 4 rfl) ?_
    refine lv_iload hx hb dX7_bestShare_42 (lv_at hl 0 rfl) ?_
    refine lv_iload_n hx hb dX7_bestShare_44 rfl (lv_at hl 5 rfl) ?_
    refine lv_iconst (v := 0) hx hb dX7_bestShare_45 (by decide) ?_
    refine call_i (cVt (k := 1076) (av := [.int 20, .int (nI N), .int 0]) (rest := []) B hP hS (c_tries l E ρ65 20 N 0 ⟨((q66 42 (by decide)).trans ((q60 42 (by decide)).trans ((q54 42 (by decide)).trans ((q48 42 (by decide)).trans ((q42 42 (by decide)).trans ((q36 42 (by decide)).trans ((q30 42 (by decide)).trans ((q24 42 (by decide)).trans ((q18 42 (by decide)).trans ((q12 42 (by decide)).trans ((congrFun (hM 1078 (by decide)) 42).trans (show r0 1078 42 = (-1) by decide +kernel)))))))))))), ((q66 368 (by decide)).trans ((q60 368 (by decide)).trans ((q54 368 (by decide)).trans ((q48 368 (by decide)).trans ((q42 368 (by decide)).trans ((q36 368 (by decide)).trans ((q30 368 (by decide)).trans ((q24 368 (by decide)).trans ((q18 368 (by decide)).trans ((q12 368 (by decide)).trans ((congrFun (hM 1078 (by decide)) 368).trans (show r0 1078 368 = (-1) by decide +kernel))))))))))))⟩ (by omega)) lk_RX7_280 (hrecv (ci := 7) B hP (hk_lt (c := 7) (by decide +kernel) (by decide)) (hcc7 _ _ (by decide +kernel)) rfl) rfl rfl hl.1 (Nat.le_of_ble_eq_true rfl) ⟨Nat.le_of_ble_eq_true rfl, Nat.le_of_ble_eq_true rfl⟩ ⟨Nat.le_of_ble_eq_true rfl, Nat.le_of_ble_eq_true rfl⟩ dX7_bestShare_46) hS (fun r70 ρ71 H locs q72 hP hS => ?_)
    obtain ⟨rfl, q72⟩ := q72
    refine lv_istore (lv' := [(5, .int 0), (4, .int 20), (3, .int 0), (2, .int 0), (0, .ref (E.2.1 + 1076)), (1, .int (nI N))]) hx hb dX7_bestShare_49 hl (by decide) rfl (fun ls hl => ?_)
    refine lv_iload hx hb dX7_bestShare_51 (lv_at hl 0 rfl) ?_
    refine lv_iload_n hx hb dX7_bestShare_53 rfl (lv_at hl 2 rfl) ?_
    refine lv_icmp_le (tgt := 62) hx hb dX7_bestShare_54 (by decide) (fun _ => ?_) (fun c73 => absurd c73 (by decide))
    refine lv_iload_n hx hb dX7_bestShare_62 rfl (lv_at hl 3 rfl) ?_
    refine lv_istore_n (lv' := [(2, .int 0), (5, .int 0), (4, .int 20), (3, .int 0), (0, .ref (E.2.1 + 1076)), (1, .int (nI N))]) hx hb dX7_bestShare_63 rfl hl (by decide) rfl (fun ls hl => ?_)
    refine lv_iload hx hb dX7_bestShare_64 (lv_at hl 1 rfl) ?_
    refine lv_iload_n hx hb dX7_bestShare_66 rfl (lv_at hl 3 rfl) ?_
    refine lv_icmp_le (tgt := 75) hx hb dX7_bestShare_67 (by decide) (fun _ => ?_) (fun c74 => absurd c74 (by decide))
    refine lv_iload_n hx hb dX7_bestShare_75 rfl (lv_at hl 3 rfl) ?_
    refine lv_istore_n (lv' := [(3, .int 0), (2, .int 0), (5, .int 0), (4, .int 20), (0, .ref (E.2.1 + 1076)), (1, .int (nI N))]) hx hb dX7_bestShare_76 rfl hl (by decide) rfl (fun ls hl => ?_)
    refine lv_iinc (v := 22) (lv' := [(4, .int 22), (3, .int 0), (2, .int 0), (5, .int 0), (0, .ref (E.2.1 + 1076)), (1, .int (nI N))]) hx hb dX7_bestShare_77 hl (k := 3) rfl (by decide) (by decide) rfl (fun ls hl => ?_)
    refine lv_goto (tgt := 34) hx hb dX7_bestShare_80 (by decide) ?_
    refine lv_iload hx hb dX7_bestShare_34 (lv_at hl 0 rfl) ?_
    refine lv_bipush (v := 32) hx hb dX7_bestShare_36 (by decide) ?_
    refine lv_icmp_gt (tgt := 83) hx hb dX7_bestShare_38 (by decide) (fun c75 => absurd c75 (by decide)) (fun _ => ?_)
    refine lv_aload_n hx hb dX7_bestShare_41 rfl (lv_at hl 4 rfl) ?_
    refine lv_iload hx hb dX7_bestShare_42 (lv_at hl 0 rfl) ?_
    refine lv_iload_n hx hb dX7_bestShare_44 rfl (lv_at hl 5 rfl) ?_
    refine lv_iconst (v := 0) hx hb dX7_bestShare_45 (by decide) ?_
    refine call_i (cVt (k := 1076) (av := [.int 22, .int (nI N), .int 0]) (rest := []) B hP hS (c_tries l E ρ71 22 N 0 ⟨((q72 42 (by decide)).trans ((q66 42 (by decide)).trans ((q60 42 (by decide)).trans ((q54 42 (by decide)).trans ((q48 42 (by decide)).trans ((q42 42 (by decide)).trans ((q36 42 (by decide)).trans ((q30 42 (by decide)).trans ((q24 42 (by decide)).trans ((q18 42 (by decide)).trans ((q12 42 (by decide)).trans ((congrFun (hM 1078 (by decide)) 42).trans (show r0 1078 42 = (-1) by decide +kernel))))))))))))), ((q72 368 (by decide)).trans ((q66 368 (by decide)).trans ((q60 368 (by decide)).trans ((q54 368 (by decide)).trans ((q48 368 (by decide)).trans ((q42 368 (by decide)).trans ((q36 368 (by decide)).trans ((q30 368 (by decide)).trans ((q24 368 (by decide)).trans ((q18 368 (by decide)).trans ((q12 368 (by decide)).trans ((congrFun (hM 1078 (by decide)) 368).trans (show r0 1078 368 = (-1) by decide +kernel)))))))))))))⟩ (by omega)) lk_RX7_280 (hrecv (ci := 7) B hP (hk_lt (c := 7) (by decide +kernel) (by decide)) (hcc7 _ _ (by decide +kernel)) rfl) rfl rfl hl.1 (Nat.le_of_ble_eq_true rfl) ⟨Nat.le_of_ble_eq_true rfl, Nat.le_of_ble_eq_true rfl⟩ ⟨Nat.le_of_ble_eq_true rfl, Nat.le_of_ble_eq_true rfl⟩ dX7_bestShare_46) hS (fun r76 ρ77 H locs q78 hP hS => ?_)
    obtain ⟨rfl, q78⟩ := q78
    refine lv_istore (lv' := [(5, .int 0), (4, .int 22), (3, .int 0), (2, .int 0), (0, .ref (E.2.1 + 1076)), (1, .int (nI N))]) hx hb dX7_bestShare_49 hl (by decide) rfl (fun ls hl => ?_)
    refine lv_iload hx hb dX7_bestShare_51 (lv_at hl 0 rfl) ?_
    refine lv_iload_n hx hb dX7_bestShare_53 rfl (lv_at hl 2 rfl) ?_
    refine lv_icmp_le (tgt := 62) hx hb dX7_bestShare_54 (by decide) (fun _ => ?_) (fun c79 => absurd c79 (by decide))
    refine lv_iload_n hx hb dX7_bestShare_62 rfl (lv_at hl 3 rfl) ?_
    refine lv_istore_n (lv' := [(2, .int 0), (5, .int 0), (4, .int 22), (3, .int 0), (0, .ref (E.2.1 + 1076)), (1, .int (nI N))]) hx hb dX7_bestShare_63 rfl hl (by decide) rfl (fun ls hl => ?_)
    refine lv_iload hx hb dX7_bestShare_64 (lv_at hl 1 rfl) ?_
    refine lv_iload_n hx hb dX7_bestShare_66 rfl (lv_at hl 3 rfl) ?_
    refine lv_icmp_le (tgt := 75) hx hb dX7_bestShare_67 (by decide) (fun _ => ?_) (fun c80 => absurd c80 (by decide))
    refine lv_iload_n hx hb dX7_bestShare_75 rfl (lv_at hl 3 rfl) ?_
    refine lv_istore_n (lv' := [(3, .int 0), (2, .int 0), (5, .int 0), (4, .int 22), (0, .ref (E.2.1 + 1076)), (1, .int (nI N))]) hx hb dX7_bestShare_76 rfl hl (by decide) rfl (fun ls hl => ?_)
    refine lv_iinc (v := 24) (lv' := [(4, .int 24), (3, .int 0), (2, .int 0), (5, .int 0), (0, .ref (E.2.1 + 1076)), (1, .int (nI N))]) hx hb dX7_bestShare_77 hl (k := 3) rfl (by decide) (by decide) rfl (fun ls hl => ?_)
    refine lv_goto (tgt := 34) hx hb dX7_bestShare_80 (by decide) ?_
    refine lv_iload hx hb dX7_bestShare_34 (lv_at hl 0 rfl) ?_
    refine lv_bipush (v := 32) hx hb dX7_bestShare_36 (by decide) ?_
    refine lv_icmp_gt (tgt := 83) hx hb dX7_bestShare_38 (by decide) (fun c81 => absurd c81 (by decide)) (fun _ => ?_)
    refine lv_aload_n hx hb dX7_bestShare_41 rfl (lv_at hl 4 rfl) ?_
    refine lv_iload hx hb dX7_bestShare_42 (lv_at hl 0 rfl) ?_
    refine lv_iload_n hx hb dX7_bestShare_44 rfl (lv_at hl 5 rfl) ?_
    refine lv_iconst (v := 0) hx hb dX7_bestShare_45 (by decide) ?_
    refine call_i (cVt (k := 1076) (av := [.int 24, .int (nI N), .int 0]) (rest := []) B hP hS (c_tries l E ρ77 24 N 0 ⟨((q78 42 (by decide)).trans ((q72 42 (by decide)).trans ((q66 42 (by decide)).trans ((q60 42 (by decide)).trans ((q54 42 (by decide)).trans ((q48 42 (by decide)).trans ((q42 42 (by decide)).trans ((q36 42 (by decide)).trans ((q30 42 (by decide)).trans ((q24 42 (by decide)).trans ((q18 42 (by decide)).trans ((q12 42 (by decide)).trans ((congrFun (hM 1078 (by decide)) 42).trans (show r0 1078 42 = (-1) by decide +kernel)))))))))))))), ((q78 368 (by decide)).trans ((q72 368 (by decide)).trans ((q66 368 (by decide)).trans ((q60 368 (by decide)).trans ((q54 368 (by decide)).trans ((q48 368 (by decide)).trans ((q42 368 (by decide)).trans ((q36 368 (by decide)).trans ((q30 368 (by decide)).trans ((q24 368 (by decide)).trans ((q18 368 (by decide)).trans ((q12 368 (by decide)).trans ((congrFun (hM 1078 (by decide)) 368).trans (show r0 1078 368 = (-1) by decide +kernel))))))))))))))⟩ (by omega)) lk_RX7_280 (hrecv (ci := 7) B hP (hk_lt (c := 7) (by decide +kernel) (by decide)) (hcc7 _ _ (by decide +kernel)) rfl) rfl rfl hl.1 (Nat.le_of_ble_eq_true rfl) ⟨Nat.le_of_ble_eq_true rfl, Nat.le_of_ble_eq_true rfl⟩ ⟨Nat.le_of_ble_eq_true rfl, Nat.le_of_ble_eq_true rfl⟩ dX7_bestShare_46) hS (fun r82 ρ83 H locs q84 hP hS => ?_)
    obtain ⟨rfl, q84⟩ := q84
    refine lv_istore (lv' := [(5, .int 0), (4, .int 24), (3, .int 0), (2, .int 0), (0, .ref (E.2.1 + 1076)), (1, .int (nI N))]) hx hb dX7_bestShare_49 hl (by decide) rfl (fun ls hl => ?_)
    refine lv_iload hx hb dX7_bestShare_51 (lv_at hl 0 rfl) ?_
    refine lv_iload_n hx hb dX7_bestShare_53 rfl (lv_at hl 2 rfl) ?_
    refine lv_icmp_le (tgt := 62) hx hb dX7_bestShare_54 (by decide) (fun _ => ?_) (fun c85 => absurd c85 (by decide))
    refine lv_iload_n hx hb dX7_bestShare_62 rfl (lv_at hl 3 rfl) ?_
    refine lv_istore_n (lv' := [(2, .int 0), (5, .int 0), (4, .int 24), (3, .int 0), (0, .ref (E.2.1 + 1076)), (1, .int (nI N))]) hx hb dX7_bestShare_63 rfl hl (by decide) rfl (fun ls hl => ?_)
    refine lv_iload hx hb dX7_bestShare_64 (lv_at hl 1 rfl) ?_
    refine lv_iload_n hx hb dX7_bestShare_66 rfl (lv_at hl 3 rfl) ?_
    refine lv_icmp_le (tgt := 75) hx hb dX7_bestShare_67 (by decide) (fun _ => ?_) (fun c86 => absurd c86 (by decide))
    refine lv_iload_n hx hb dX7_bestShare_75 rfl (lv_at hl 3 rfl) ?_
    refine lv_istore_n (lv' := [(3, .int 0), (2, .int 0), (5, .int 0), (4, .int 24), (0, .ref (E.2.1 + 1076)), (1, .int (nI N))]) hx hb dX7_bestShare_76 rfl hl (by decide) rfl (fun ls hl => ?_)
    refine lv_iinc (v := 26) (lv' := [(4, .int 26), (3, .int 0), (2, .int 0), (5, .int 0), (0, .ref (E.2.1 + 1076)), (1, .int (nI N))]) hx hb dX7_bestShare_77 hl (k := 3) rfl (by decide) (by decide) rfl (fun ls hl => ?_)
    refine lv_goto (tgt := 34) hx hb dX7_bestShare_80 (by decide) ?_
    refine lv_iload hx hb dX7_bestShare_34 (lv_at hl 0 rfl) ?_
    refine lv_bipush (v := 32) hx hb dX7_bestShare_36 (by decide) ?_
    refine lv_icmp_gt (tgt := 83) hx hb dX7_bestShare_38 (by decide) (fun c87 => absurd c87 (by decide)) (fun _ => ?_)
    refine lv_aload_n hx hb dX7_bestShare_41 rfl (lv_at hl 4 rfl) ?_
    refine lv_iload hx hb dX7_bestShare_42 (lv_at hl 0 rfl) ?_
    refine lv_iload_n hx hb dX7_bestShare_44 rfl (lv_at hl 5 rfl) ?_
    refine lv_iconst (v := 0) hx hb dX7_bestShare_45 (by decide) ?_
    refine call_i (cVt (k := 1076) (av := [.int 26, .int (nI N), .int 0]) (rest := []) B hP hS (c_tries l E ρ83 26 N 0 ⟨((q84 42 (by decide)).trans ((q78 42 (by decide)).trans ((q72 42 (by decide)).trans ((q66 42 (by decide)).trans ((q60 42 (by decide)).trans ((q54 42 (by decide)).trans ((q48 42 (by decide)).trans ((q42 42 (by decide)).trans ((q36 42 (by decide)).trans ((q30 42 (by decide)).trans ((q24 42 (by decide)).trans ((q18 42 (by decide)).trans ((q12 42 (by decide)).trans ((congrFun (hM 1078 (by decide)) 42).trans (show r0 1078 42 = (-1) by decide +kernel))))))))))))))), ((q84 368 (by decide)).trans ((q78 368 (by decide)).trans ((q72 368 (by decide)).trans ((q66 368 (by decide)).trans ((q60 368 (by decide)).trans ((q54 368 (by decide)).trans ((q48 368 (by decide)).trans ((q42 368 (by decide)).trans ((q36 368 (by decide)).trans ((q30 368 (by decide)).trans ((q24 368 (by decide)).trans ((q18 368 (by decide)).trans ((q12 368 (by decide)).trans ((congrFun (hM 1078 (by decide)) 368).trans (show r0 1078 368 = (-1) by decide +kernel)))))))))))))))⟩ (by omega)) lk_RX7_280 (hrecv (ci := 7) B hP (hk_lt (c := 7) (by decide +kernel) (by decide)) (hcc7 _ _ (by decide +kernel)) rfl) rfl rfl hl.1 (Nat.le_of_ble_eq_true rfl) ⟨Nat.le_of_ble_eq_true rfl, Nat.le_of_ble_eq_true rfl⟩ ⟨Nat.le_of_ble_eq_true rfl, Nat.le_of_ble_eq_true rfl⟩ dX7_bestShare_46) hS (fun r88 ρ89 H locs q90 hP hS => ?_)
    obtain ⟨rfl, q90⟩ := q90
    refine lv_istore (lv' := [(5, .int 0), (4, .int 26), (3, .int 0), (2, .int 0), (0, .ref (E.2.1 + 1076)), (1, .int (nI N))]) hx hb dX7_bestShare_49 hl (by decide) rfl (fun ls hl => ?_)
    refine lv_iload hx hb dX7_bestShare_51 (lv_at hl 0 rfl) ?_
    refine lv_iload_n hx hb dX7_bestShare_53 rfl (lv_at hl 2 rfl) ?_
    refine lv_icmp_le (tgt := 62) hx hb dX7_bestShare_54 (by decide) (fun _ => ?_) (fun c91 => absurd c91 (by decide))
    refine lv_iload_n hx hb dX7_bestShare_62 rfl (lv_at hl 3 rfl) ?_
    refine lv_istore_n (lv' := [(2, .int 0), (5, .int 0), (4, .int 26), (3, .int 0), (0, .ref (E.2.1 + 1076)), (1, .int (nI N))]) hx hb dX7_bestShare_63 rfl hl (by decide) rfl (fun ls hl => ?_)
    refine lv_iload hx hb dX7_bestShare_64 (lv_at hl 1 rfl) ?_
    refine lv_iload_n hx hb dX7_bestShare_66 rfl (lv_at hl 3 rfl) ?_
    refine lv_icmp_le (tgt := 75) hx hb dX7_bestShare_67 (by decide) (fun _ => ?_) (fun c92 => absurd c92 (by decide))
    refine lv_iload_n hx hb dX7_bestShare_75 rfl (lv_at hl 3 rfl) ?_
    refine lv_istore_n (lv' := [(3, .int 0), (2, .int 0), (5, .int 0), (4, .int 26), (0, .ref (E.2.1 + 1076)), (1, .int (nI N))]) hx hb dX7_bestShare_76 rfl hl (by decide) rfl (fun ls hl => ?_)
    refine lv_iinc (v := 28) (lv' := [(4, .int 28), (3, .int 0), (2, .int 0), (5, .int 0), (0, .ref (E.2.1 + 1076)), (1, .int (nI N))]) hx hb dX7_bestShare_77 hl (k := 3) rfl (by decide) (by decide) rfl (fun ls hl => ?_)
    refine lv_goto (tgt := 34) hx hb dX7_bestShare_80 (by decide) ?_
    refine lv_iload hx hb dX7_bestShare_34 (lv_at hl 0 rfl) ?_
    refine lv_bipush (v := 32) hx hb dX7_bestShare_36 (by decide) ?_
    refine lv_icmp_gt (tgt := 83) hx hb dX7_bestShare_38 (by decide) (fun c93 => absurd c93 (by decide)) (fun _ => ?_)
    refine lv_aload_n hx hb dX7_bestShare_41 rfl (lv_at hl 4 rfl) ?_
    refine lv_iload hx hb dX7_bestShare_42 (lv_at hl 0 rfl) ?_
    refine lv_iload_n hx hb dX7_bestShare_44 rfl (lv_at hl 5 rfl) ?_
    refine lv_iconst (v := 0) hx hb dX7_bestShare_45 (by decide) ?_
    refine call_i (cVt (k := 1076) (av := [.int 28, .int (nI N), .int 0]) (rest := []) B hP hS (c_tries l E ρ89 28 N 0 ⟨((q90 42 (by decide)).trans ((q84 42 (by decide)).trans ((q78 42 (by decide)).trans ((q72 42 (by decide)).trans ((q66 42 (by decide)).trans ((q60 42 (by decide)).trans ((q54 42 (by decide)).trans ((q48 42 (by decide)).trans ((q42 42 (by decide)).trans ((q36 42 (by decide)).trans ((q30 42 (by decide)).trans ((q24 42 (by decide)).trans ((q18 42 (by decide)).trans ((q12 42 (by decide)).trans ((congrFun (hM 1078 (by decide)) 42).trans (show r0 1078 42 = (-1) by decide +kernel)))))))))))))))), ((q90 368 (by decide)).trans ((q84 368 (by decide)).trans ((q78 368 (by decide)).trans ((q72 368 (by decide)).trans ((q66 368 (by decide)).trans ((q60 368 (by decide)).trans ((q54 368 (by decide)).trans ((q48 368 (by decide)).trans ((q42 368 (by decide)).trans ((q36 368 (by decide)).trans ((q30 368 (by decide)).trans ((q24 368 (by decide)).trans ((q18 368 (by decide)).trans ((q12 368 (by decide)).trans ((congrFun (hM 1078 (by decide)) 368).trans (show r0 1078 368 = (-1) by decide +kernel))))))))))))))))⟩ (by omega)) lk_RX7_280 (hrecv (ci := 7) B hP (hk_lt (c := 7) (by decide +kernel) (by decide)) (hcc7 _ _ (by decide +kernel)) rfl) rfl rfl hl.1 (Nat.le_of_ble_eq_true rfl) ⟨Nat.le_of_ble_eq_true rfl, Nat.le_of_ble_eq_true rfl⟩ ⟨Nat.le_of_ble_eq_true rfl, Nat.le_of_ble_eq_true rfl⟩ dX7_bestShare_46) hS (fun r94 ρ95 H locs q96 hP hS => ?_)
    obtain ⟨rfl, q96⟩ := q96
    refine lv_istore (lv' := [(5, .int 0), (4, .int 28), (3, .int 0), (2, .int 0), (0, .ref (E.2.1 + 1076)), (1, .int (nI N))]) hx hb dX7_bestShare_49 hl (by decide) rfl (fun ls hl => ?_)
    refine lv_iload hx hb dX7_bestShare_51 (lv_at hl 0 rfl) ?_
    refine lv_iload_n hx hb dX7_bestShare_53 rfl (lv_at hl 2 rfl) ?_
    refine lv_icmp_le (tgt := 62) hx hb dX7_bestShare_54 (by decide) (fun _ => ?_) (fun c97 => absurd c97 (by decide))
    refine lv_iload_n hx hb dX7_bestShare_62 rfl (lv_at hl 3 rfl) ?_
    refine lv_istore_n (lv' := [(2, .int 0), (5, .int 0), (4, .int 28), (3, .int 0), (0, .ref (E.2.1 + 1076)), (1, .int (nI N))]) hx hb dX7_bestShare_63 rfl hl (by decide) rfl (fun ls hl => ?_)
    refine lv_iload hx hb dX7_bestShare_64 (lv_at hl 1 rfl) ?_
    refine lv_iload_n hx hb dX7_bestShare_66 rfl (lv_at hl 3 rfl) ?_
    refine lv_icmp_le (tgt := 75) hx hb dX7_bestShare_67 (by decide) (fun _ => ?_) (fun c98 => absurd c98 (by decide))
    refine lv_iload_n hx hb dX7_bestShare_75 rfl (lv_at hl 3 rfl) ?_
    refine lv_istore_n (lv' := [(3, .int 0), (2, .int 0), (5, .int 0), (4, .int 28), (0, .ref (E.2.1 + 1076)), (1, .int (nI N))]) hx hb dX7_bestShare_76 rfl hl (by decide) rfl (fun ls hl => ?_)
    refine lv_iinc (v := 30) (lv' := [(4, .int 30), (3, .int 0), (2, .int 0), (5, .int 0), (0, .ref (E.2.1 + 1076)), (1, .int (nI N))]) hx hb dX7_bestShare_77 hl (k := 3) rfl (by decide) (by decide) rfl (fun ls hl => ?_)
    refine lv_goto (tgt := 34) hx hb dX7_bestShare_80 (by decide) ?_
    refine lv_iload hx hb dX7_bestShare_34 (lv_at hl 0 rfl) ?_
    refine lv_bipush (v := 32) hx hb dX7_bestShare_36 (by decide) ?_
    refine lv_icmp_gt (tgt := 83) hx hb dX7_bestShare_38 (by decide) (fun c99 => absurd c99 (by decide)) (fun _ => ?_)
    refine lv_aload_n hx hb dX7_bestShare_41 rfl (lv_at hl 4 rfl) ?_
    refine lv_iload hx hb dX7_bestShare_42 (lv_at hl 0 rfl) ?_
    refine lv_iload_n hx hb dX7_bestShare_44 rfl (lv_at hl 5 rfl) ?_
    refine lv_iconst (v := 0) hx hb dX7_bestShare_45 (by decide) ?_
    refine call_i (cVt (k := 1076) (av := [.int 30, .int (nI N), .int 0]) (rest := []) B hP hS (c_tries l E ρ95 30 N 0 ⟨((q96 42 (by decide)).trans ((q90 42 (by decide)).trans ((q84 42 (by decide)).trans ((q78 42 (by decide)).trans ((q72 42 (by decide)).trans ((q66 42 (by decide)).trans ((q60 42 (by decide)).trans ((q54 42 (by decide)).trans ((q48 42 (by decide)).trans ((q42 42 (by decide)).trans ((q36 42 (by decide)).trans ((q30 42 (by decide)).trans ((q24 42 (by decide)).trans ((q18 42 (by decide)).trans ((q12 42 (by decide)).trans ((congrFun (hM 1078 (by decide)) 42).trans (show r0 1078 42 = (-1) by decide +kernel))))))))))))))))), ((q96 368 (by decide)).trans ((q90 368 (by decide)).trans ((q84 368 (by decide)).trans ((q78 368 (by decide)).trans ((q72 368 (by decide)).trans ((q66 368 (by decide)).trans ((q60 368 (by decide)).trans ((q54 368 (by decide)).trans ((q48 368 (by decide)).trans ((q42 368 (by decide)).trans ((q36 368 (by decide)).trans ((q30 368 (by decide)).trans ((q24 368 (by decide)).trans ((q18 368 (by decide)).trans ((q12 368 (by decide)).trans ((congrFun (hM 1078 (by decide)) 368).trans (show r0 1078 368 = (-1) by decide +kernel)))))))))))))))))⟩ (by omega)) lk_RX7_280 (hrecv (ci := 7) B hP (hk_lt (c := 7) (by decide +kernel) (by decide)) (hcc7 _ _ (by decide +kernel)) rfl) rfl rfl hl.1 (Nat.le_of_ble_eq_true rfl) ⟨Nat.le_of_ble_eq_true rfl, Nat.le_of_ble_eq_true rfl⟩ ⟨Nat.le_of_ble_eq_true rfl, Nat.le_of_ble_eq_true rfl⟩ dX7_bestShare_46) hS (fun r100 ρ101 H locs q102 hP hS => ?_)
    obtain ⟨rfl, q102⟩ := q102
    refine lv_istore (lv' := [(5, .int 0), (4, .int 30), (3, .int 0), (2, .int 0), (0, .ref (E.2.1 + 1076)), (1, .int (nI N))]) hx hb dX7_bestShare_49 hl (by decide) rfl (fun ls hl => ?_)
    refine lv_iload hx hb dX7_bestShare_51 (lv_at hl 0 rfl) ?_
    refine lv_iload_n hx hb dX7_bestShare_53 rfl (lv_at hl 2 rfl) ?_
    refine lv_icmp_le (tgt := 62) hx hb dX7_bestShare_54 (by decide) (fun _ => ?_) (fun c103 => absurd c103 (by decide))
    refine lv_iload_n hx hb dX7_bestShare_62 rfl (lv_at hl 3 rfl) ?_
    refine lv_istore_n (lv' := [(2, .int 0), (5, .int 0), (4, .int 30), (3, .int 0), (0, .ref (E.2.1 + 1076)), (1, .int (nI N))]) hx hb dX7_bestShare_63 rfl hl (by decide) rfl (fun ls hl => ?_)
    refine lv_iload hx hb dX7_bestShare_64 (lv_at hl 1 rfl) ?_
    refine lv_iload_n hx hb dX7_bestShare_66 rfl (lv_at hl 3 rfl) ?_
    refine lv_icmp_le (tgt := 75) hx hb dX7_bestShare_67 (by decide) (fun _ => ?_) (fun c104 => absurd c104 (by decide))
    refine lv_iload_n hx hb dX7_bestShare_75 rfl (lv_at hl 3 rfl) ?_
    refine lv_istore_n (lv' := [(3, .int 0), (2, .int 0), (5, .int 0), (4, .int 30), (0, .ref (E.2.1 + 1076)), (1, .int (nI N))]) hx hb dX7_bestShare_76 rfl hl (by decide) rfl (fun ls hl => ?_)
    refine lv_iinc (v := 32) (lv' := [(4, .int 32), (3, .int 0), (2, .int 0), (5, .int 0), (0, .ref (E.2.1 + 1076)), (1, .int (nI N))]) hx hb dX7_bestShare_77 hl (k := 3) rfl (by decide) (by decide) rfl (fun ls hl => ?_)
    refine lv_goto (tgt := 34) hx hb dX7_bestShare_80 (by decide) ?_
    refine lv_iload hx hb dX7_bestShare_34 (lv_at hl 0 rfl) ?_
    refine lv_bipush (v := 32) hx hb dX7_bestShare_36 (by decide) ?_
    refine lv_icmp_gt (tgt := 83) hx hb dX7_bestShare_38 (by decide) (fun c105 => absurd c105 (by decide)) (fun _ => ?_)
    refine lv_aload_n hx hb dX7_bestShare_41 rfl (lv_at hl 4 rfl) ?_
    refine lv_iload hx hb dX7_bestShare_42 (lv_at hl 0 rfl) ?_
    refine lv_iload_n hx hb dX7_bestShare_44 rfl (lv_at hl 5 rfl) ?_
    refine lv_iconst (v := 0) hx hb dX7_bestShare_45 (by decide) ?_
    refine call_i (cVt (k := 1076) (av := [.int 32, .int (nI N), .int 0]) (rest := []) B hP hS (c_tries l E ρ101 32 N 0 ⟨((q102 42 (by decide)).trans ((q96 42 (by decide)).trans ((q90 42 (by decide)).trans ((q84 42 (by decide)).trans ((q78 42 (by decide)).trans ((q72 42 (by decide)).trans ((q66 42 (by decide)).trans ((q60 42 (by decide)).trans ((q54 42 (by decide)).trans ((q48 42 (by decide)).trans ((q42 42 (by decide)).trans ((q36 42 (by decide)).trans ((q30 42 (by decide)).trans ((q24 42 (by decide)).trans ((q18 42 (by decide)).trans ((q12 42 (by decide)).trans ((congrFun (hM 1078 (by decide)) 42).trans (show r0 1078 42 = (-1) by decide +kernel)))))))))))))))))), ((q102 368 (by decide)).trans ((q96 368 (by decide)).trans ((q90 368 (by decide)).trans ((q84 368 (by decide)).trans ((q78 368 (by decide)).trans ((q72 368 (by decide)).trans ((q66 368 (by decide)).trans ((q60 368 (by decide)).trans ((q54 368 (by decide)).trans ((q48 368 (by decide)).trans ((q42 368 (by decide)).trans ((q36 368 (by decide)).trans ((q30 368 (by decide)).trans ((q24 368 (by decide)).trans ((q18 368 (by decide)).trans ((q12 368 (by decide)).trans ((congrFun (hM 1078 (by decide)) 368).trans (show r0 1078 368 = (-1) by decide +kernel))))))))))))))))))⟩ (by omega)) lk_RX7_280 (hrecv (ci := 7) B hP (hk_lt (c := 7) (by decide +kernel) (by decide)) (hcc7 _ _ (by decide +kernel)) rfl) rfl rfl hl.1 (Nat.le_of_ble_eq_true rfl) ⟨Nat.le_of_ble_eq_true rfl, Nat.le_of_ble_eq_true rfl⟩ ⟨Nat.le_of_ble_eq_true rfl, Nat.le_of_ble_eq_true rfl⟩ dX7_bestShare_46) hS (fun r106 ρ107 H locs q108 hP hS => ?_)
    obtain ⟨rfl, q108⟩ := q108
    refine lv_istore (lv' := [(5, .int 0), (4, .int 32), (3, .int 0), (2, .int 0), (0, .ref (E.2.1 + 1076)), (1, .int (nI N))]) hx hb dX7_bestShare_49 hl (by decide) rfl (fun ls hl => ?_)
    refine lv_iload hx hb dX7_bestShare_51 (lv_at hl 0 rfl) ?_
    refine lv_iload_n hx hb dX7_bestShare_53 rfl (lv_at hl 2 rfl) ?_
    refine lv_icmp_le (tgt := 62) hx hb dX7_bestShare_54 (by decide) (fun _ => ?_) (fun c109 => absurd c109 (by decide))
    refine lv_iload_n hx hb dX7_bestShare_62 rfl (lv_at hl 3 rfl) ?_
    refine lv_istore_n (lv' := [(2, .int 0), (5, .int 0), (4, .int 32), (3, .int 0), (0, .ref (E.2.1 + 1076)), (1, .int (nI N))]) hx hb dX7_bestShare_63 rfl hl (by decide) rfl (fun ls hl => ?_)
    refine lv_iload hx hb dX7_bestShare_64 (lv_at hl 1 rfl) ?_
    refine lv_iload_n hx hb dX7_bestShare_66 rfl (lv_at hl 3 rfl) ?_
    refine lv_icmp_le (tgt := 75) hx hb dX7_bestShare_67 (by decide) (fun _ => ?_) (fun c110 => absurd c110 (by decide))
    refine lv_iload_n hx hb dX7_bestShare_75 rfl (lv_at hl 3 rfl) ?_
    refine lv_istore_n (lv' := [(3, .int 0), (2, .int 0), (5, .int 0), (4, .int 32), (0, .ref (E.2.1 + 1076)), (1, .int (nI N))]) hx hb dX7_bestShare_76 rfl hl (by decide) rfl (fun ls hl => ?_)
    refine lv_iinc (v := 34) (lv' := [(4, .int 34), (3, .int 0), (2, .int 0), (5, .int 0), (0, .ref (E.2.1 + 1076)), (1, .int (nI N))]) hx hb dX7_bestShare_77 hl (k := 3) rfl (by decide) (by decide) rfl (fun ls hl => ?_)
    refine lv_goto (tgt := 34) hx hb dX7_bestShare_80 (by decide) ?_
    refine lv_iload hx hb dX7_bestShare_34 (lv_at hl 0 rfl) ?_
    refine lv_bipush (v := 32) hx hb dX7_bestShare_36 (by decide) ?_
    refine lv_icmp_gt (tgt := 83) hx hb dX7_bestShare_38 (by decide) (fun _ => ?_) (fun c111 => absurd c111 (by decide))
    refine lv_iload_n hx hb dX7_bestShare_83 rfl (lv_at hl 2 rfl) ?_
    exact ret_i B hr hlk hP hS dX7_bestShare_84 (Or.inl ⟨hn, rfl⟩)
  · skip
    refine lv_if_eq (tgt := 25) hx hb dX7_bestShare_14 (by decide) (fun _ => ?_) (fun c112 => absurd c112 (by decide))
    refine lv_iconst (v := (-1)) hx hb dX7_bestShare_25 (by decide) ?_
    exact ret_i B hr hlk hP hS dX7_bestShare_26 (Or.inr ⟨fun z => q3 z, rfl⟩)
