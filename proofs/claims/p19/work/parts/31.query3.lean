theorem dX7_ranked_0 : decode cX7_ranked 0 = .ok (.aload_n 0, 1) := by decide +kernel
theorem dX7_ranked_1 : decode cX7_ranked 1 = .ok (.iconst 0, 1) := by decide +kernel
theorem dX7_ranked_2 : decode cX7_ranked 2 = .ok (.putfield 50, 3) := by decide +kernel
theorem dX7_ranked_5 : decode cX7_ranked 5 = .ok (.iconst (-1), 1) := by decide +kernel
theorem dX7_ranked_6 : decode cX7_ranked 6 = .ok (.istore_n 3, 1) := by decide +kernel
theorem dX7_ranked_7 : decode cX7_ranked 7 = .ok (.iconst 0, 1) := by decide +kernel
theorem dX7_ranked_8 : decode cX7_ranked 8 = .ok (.istore 4, 2) := by decide +kernel
theorem dX7_ranked_10 : decode cX7_ranked 10 = .ok (.aload_n 0, 1) := by decide +kernel
theorem dX7_ranked_11 : decode cX7_ranked 11 = .ok (.iload_n 1, 1) := by decide +kernel
theorem dX7_ranked_12 : decode cX7_ranked 12 = .ok (.invokevirtual 78, 3) := by decide +kernel
theorem dX7_ranked_15 : decode cX7_ranked 15 = .ok (.ifCond .eq 91, 3) := by decide +kernel
theorem dX7_ranked_18 : decode cX7_ranked 18 = .ok (.iload 4, 2) := by decide +kernel
theorem dX7_ranked_20 : decode cX7_ranked 20 = .ok (.bipush 23, 2) := by decide +kernel
theorem dX7_ranked_22 : decode cX7_ranked 22 = .ok (.if_icmp .ge 84, 3) := by decide +kernel
theorem dX7_ranked_25 : decode cX7_ranked 25 = .ok (.iconst 0, 1) := by decide +kernel
theorem dX7_ranked_26 : decode cX7_ranked 26 = .ok (.istore 5, 2) := by decide +kernel
theorem dX7_ranked_28 : decode cX7_ranked 28 = .ok (.iconst 0, 1) := by decide +kernel
theorem dX7_ranked_29 : decode cX7_ranked 29 = .ok (.istore 6, 2) := by decide +kernel
theorem dX7_ranked_31 : decode cX7_ranked 31 = .ok (.iload 6, 2) := by decide +kernel
theorem dX7_ranked_33 : decode cX7_ranked 33 = .ok (.bipush 23, 2) := by decide +kernel
theorem dX7_ranked_35 : decode cX7_ranked 35 = .ok (.if_icmp .ge 34, 3) := by decide +kernel
theorem dX7_ranked_38 : decode cX7_ranked 38 = .ok (.iload 5, 2) := by decide +kernel
theorem dX7_ranked_40 : decode cX7_ranked 40 = .ok (.aload_n 0, 1) := by decide +kernel
theorem dX7_ranked_41 : decode cX7_ranked 41 = .ok (.iload_n 1, 1) := by decide +kernel
theorem dX7_ranked_42 : decode cX7_ranked 42 = .ok (.invokestatic 75, 3) := by decide +kernel
theorem dX7_ranked_45 : decode cX7_ranked 45 = .ok (.iload 6, 2) := by decide +kernel
theorem dX7_ranked_47 : decode cX7_ranked 47 = .ok (.iload 4, 2) := by decide +kernel
theorem dX7_ranked_49 : decode cX7_ranked 49 = .ok (.invokevirtual 269, 3) := by decide +kernel
theorem dX7_ranked_52 : decode cX7_ranked 52 = .ok (.ifCond .eq 7, 3) := by decide +kernel
theorem dX7_ranked_55 : decode cX7_ranked 55 = .ok (.iconst 1, 1) := by decide +kernel
theorem dX7_ranked_56 : decode cX7_ranked 56 = .ok (.goto 4, 3) := by decide +kernel
theorem dX7_ranked_59 : decode cX7_ranked 59 = .ok (.iconst 0, 1) := by decide +kernel
theorem dX7_ranked_60 : decode cX7_ranked 60 = .ok (.iadd, 1) := by decide +kernel
theorem dX7_ranked_61 : decode cX7_ranked 61 = .ok (.istore 5, 2) := by decide +kernel
theorem dX7_ranked_63 : decode cX7_ranked 63 = .ok (.iinc 6 1, 3) := by decide +kernel
theorem dX7_ranked_66 : decode cX7_ranked 66 = .ok (.goto (-35), 3) := by decide +kernel
theorem dX7_ranked_69 : decode cX7_ranked 69 = .ok (.aload_n 0, 1) := by decide +kernel
theorem dX7_ranked_70 : decode cX7_ranked 70 = .ok (.getfield 13, 3) := by decide +kernel
theorem dX7_ranked_73 : decode cX7_ranked 73 = .ok (.iload_n 1, 1) := by decide +kernel
theorem dX7_ranked_74 : decode cX7_ranked 74 = .ok (.invokestatic 75, 3) := by decide +kernel
theorem dX7_ranked_77 : decode cX7_ranked 77 = .ok (.bipush 16, 2) := by decide +kernel
theorem dX7_ranked_79 : decode cX7_ranked 79 = .ok (.iadd, 1) := by decide +kernel
theorem dX7_ranked_80 : decode cX7_ranked 80 = .ok (.iload 4, 2) := by decide +kernel
theorem dX7_ranked_82 : decode cX7_ranked 82 = .ok (.iadd, 1) := by decide +kernel
theorem dX7_ranked_83 : decode cX7_ranked 83 = .ok (.iaload, 1) := by decide +kernel
theorem dX7_ranked_84 : decode cX7_ranked 84 = .ok (.ifCond .le 14, 3) := by decide +kernel
theorem dX7_ranked_87 : decode cX7_ranked 87 = .ok (.iload 5, 2) := by decide +kernel
theorem dX7_ranked_89 : decode cX7_ranked 89 = .ok (.iload_n 2, 1) := by decide +kernel
theorem dX7_ranked_90 : decode cX7_ranked 90 = .ok (.if_icmp .ne 8, 3) := by decide +kernel
theorem dX7_ranked_93 : decode cX7_ranked 93 = .ok (.iload 4, 2) := by decide +kernel
theorem dX7_ranked_95 : decode cX7_ranked 95 = .ok (.goto 4, 3) := by decide +kernel
theorem dX7_ranked_98 : decode cX7_ranked 98 = .ok (.iload_n 3, 1) := by decide +kernel
theorem dX7_ranked_99 : decode cX7_ranked 99 = .ok (.istore_n 3, 1) := by decide +kernel
theorem dX7_ranked_100 : decode cX7_ranked 100 = .ok (.iinc 4 1, 3) := by decide +kernel
theorem dX7_ranked_103 : decode cX7_ranked 103 = .ok (.goto (-93), 3) := by decide +kernel
theorem dX7_ranked_106 : decode cX7_ranked 106 = .ok (.iload_n 3, 1) := by decide +kernel
theorem dX7_ranked_107 : decode cX7_ranked 107 = .ok (.ireturn, 1) := by decide +kernel
theorem dX7_quiet_0 : decode cX7_quiet 0 = .ok (.aload_n 0, 1) := by decide +kernel
theorem dX7_quiet_1 : decode cX7_quiet 1 = .ok (.iconst 0, 1) := by decide +kernel
theorem dX7_quiet_2 : decode cX7_quiet 2 = .ok (.putfield 50, 3) := by decide +kernel
theorem dX7_quiet_5 : decode cX7_quiet 5 = .ok (.aload_n 0, 1) := by decide +kernel
theorem dX7_quiet_6 : decode cX7_quiet 6 = .ok (.iload_n 1, 1) := by decide +kernel
theorem dX7_quiet_7 : decode cX7_quiet 7 = .ok (.invokevirtual 78, 3) := by decide +kernel
theorem dX7_quiet_10 : decode cX7_quiet 10 = .ok (.ifCond .eq 15, 3) := by decide +kernel
theorem dX7_quiet_13 : decode cX7_quiet 13 = .ok (.iload_n 2, 1) := by decide +kernel
theorem dX7_quiet_14 : decode cX7_quiet 14 = .ok (.i2l, 1) := by decide +kernel
theorem dX7_quiet_15 : decode cX7_quiet 15 = .ok (.lconst 0, 1) := by decide +kernel
theorem dX7_quiet_16 : decode cX7_quiet 16 = .ok (.ldc2_w 272, 3) := by decide +kernel
theorem dX7_quiet_19 : decode cX7_quiet 19 = .ok (.invokestatic 71, 3) := by decide +kernel
theorem dX7_quiet_22 : decode cX7_quiet 22 = .ok (.ifCond .ne 5, 3) := by decide +kernel
theorem dX7_quiet_25 : decode cX7_quiet 25 = .ok (.iconst (-1), 1) := by decide +kernel
theorem dX7_quiet_26 : decode cX7_quiet 26 = .ok (.ireturn, 1) := by decide +kernel
theorem dX7_quiet_27 : decode cX7_quiet 27 = .ok (.iconst 0, 1) := by decide +kernel
theorem dX7_quiet_28 : decode cX7_quiet 28 = .ok (.istore_n 3, 1) := by decide +kernel
theorem dX7_quiet_29 : decode cX7_quiet 29 = .ok (.iconst 0, 1) := by decide +kernel
theorem dX7_quiet_30 : decode cX7_quiet 30 = .ok (.istore 4, 2) := by decide +kernel
theorem dX7_quiet_32 : decode cX7_quiet 32 = .ok (.iload 4, 2) := by decide +kernel
theorem dX7_quiet_34 : decode cX7_quiet 34 = .ok (.aload_n 0, 1) := by decide +kernel
theorem dX7_quiet_35 : decode cX7_quiet 35 = .ok (.getfield 13, 3) := by decide +kernel
theorem dX7_quiet_38 : decode cX7_quiet 38 = .ok (.iload_n 1, 1) := by decide +kernel
theorem dX7_quiet_39 : decode cX7_quiet 39 = .ok (.invokestatic 75, 3) := by decide +kernel
theorem dX7_quiet_42 : decode cX7_quiet 42 = .ok (.bipush 6, 2) := by decide +kernel
theorem dX7_quiet_44 : decode cX7_quiet 44 = .ok (.iadd, 1) := by decide +kernel
theorem dX7_quiet_45 : decode cX7_quiet 45 = .ok (.iaload, 1) := by decide +kernel
theorem dX7_quiet_46 : decode cX7_quiet 46 = .ok (.if_icmp .ge 48, 3) := by decide +kernel
theorem dX7_quiet_49 : decode cX7_quiet 49 = .ok (.iload_n 3, 1) := by decide +kernel
theorem dX7_quiet_50 : decode cX7_quiet 50 = .ok (.aload_n 0, 1) := by decide +kernel
theorem dX7_quiet_51 : decode cX7_quiet 51 = .ok (.getfield 13, 3) := by decide +kernel
theorem dX7_quiet_54 : decode cX7_quiet 54 = .ok (.bipush 7, 2) := by decide +kernel
theorem dX7_quiet_56 : decode cX7_quiet 56 = .ok (.iaload, 1) := by decide +kernel
theorem dX7_quiet_57 : decode cX7_quiet 57 = .ok (.aload_n 0, 1) := by decide +kernel
theorem dX7_quiet_58 : decode cX7_quiet 58 = .ok (.getfield 13, 3) := by decide +kernel
theorem dX7_quiet_61 : decode cX7_quiet 61 = .ok (.iload_n 1, 1) := by decide +kernel
theorem dX7_quiet_62 : decode cX7_quiet 62 = .ok (.iload 4, 2) := by decide +kernel
theorem dX7_quiet_64 : decode cX7_quiet 64 = .ok (.invokestatic 82, 3) := by decide +kernel
theorem dX7_quiet_67 : decode cX7_quiet 67 = .ok (.bipush 49, 2) := by decide +kernel
theorem dX7_quiet_69 : decode cX7_quiet 69 = .ok (.iadd, 1) := by decide +kernel
theorem dX7_quiet_70 : decode cX7_quiet 70 = .ok (.iaload, 1) := by decide +kernel
theorem dX7_quiet_71 : decode cX7_quiet 71 = .ok (.isub, 1) := by decide +kernel
theorem dX7_quiet_72 : decode cX7_quiet 72 = .ok (.iconst 2, 1) := by decide +kernel
theorem dX7_quiet_73 : decode cX7_quiet 73 = .ok (.idiv, 1) := by decide +kernel
theorem dX7_quiet_74 : decode cX7_quiet 74 = .ok (.iload_n 2, 1) := by decide +kernel
theorem dX7_quiet_75 : decode cX7_quiet 75 = .ok (.if_icmp .lt 10, 3) := by decide +kernel
theorem dX7_quiet_78 : decode cX7_quiet 78 = .ok (.iconst 1, 1) := by decide +kernel
theorem dX7_quiet_79 : decode cX7_quiet 79 = .ok (.iload 4, 2) := by decide +kernel
theorem dX7_quiet_81 : decode cX7_quiet 81 = .ok (.ishl, 1) := by decide +kernel
theorem dX7_quiet_82 : decode cX7_quiet 82 = .ok (.goto 4, 3) := by decide +kernel
theorem dX7_quiet_85 : decode cX7_quiet 85 = .ok (.iconst 0, 1) := by decide +kernel
theorem dX7_quiet_86 : decode cX7_quiet 86 = .ok (.ior, 1) := by decide +kernel
theorem dX7_quiet_87 : decode cX7_quiet 87 = .ok (.istore_n 3, 1) := by decide +kernel
theorem dX7_quiet_88 : decode cX7_quiet 88 = .ok (.iinc 4 1, 3) := by decide +kernel
theorem dX7_quiet_91 : decode cX7_quiet 91 = .ok (.goto (-59), 3) := by decide +kernel
theorem dX7_quiet_94 : decode cX7_quiet 94 = .ok (.iload_n 3, 1) := by decide +kernel
theorem dX7_quiet_95 : decode cX7_quiet 95 = .ok (.ireturn, 1) := by decide +kernel
theorem dX7_ofNet_0 : decode cX7_ofNet 0 = .ok (.aload_n 0, 1) := by decide +kernel
theorem dX7_ofNet_1 : decode cX7_ofNet 1 = .ok (.iconst 0, 1) := by decide +kernel
theorem dX7_ofNet_2 : decode cX7_ofNet 2 = .ok (.putfield 50, 3) := by decide +kernel
theorem dX7_ofNet_5 : decode cX7_ofNet 5 = .ok (.aload_n 0, 1) := by decide +kernel
theorem dX7_ofNet_6 : decode cX7_ofNet 6 = .ok (.iload_n 1, 1) := by decide +kernel
theorem dX7_ofNet_7 : decode cX7_ofNet 7 = .ok (.invokevirtual 78, 3) := by decide +kernel
theorem dX7_ofNet_10 : decode cX7_ofNet 10 = .ok (.ifCond .ne 5, 3) := by decide +kernel
theorem dX7_ofNet_13 : decode cX7_ofNet 13 = .ok (.iconst (-1), 1) := by decide +kernel
theorem dX7_ofNet_14 : decode cX7_ofNet 14 = .ok (.ireturn, 1) := by decide +kernel
theorem dX7_ofNet_15 : decode cX7_ofNet 15 = .ok (.iload_n 1, 1) := by decide +kernel
theorem dX7_ofNet_16 : decode cX7_ofNet 16 = .ok (.invokestatic 75, 3) := by decide +kernel
theorem dX7_ofNet_19 : decode cX7_ofNet 19 = .ok (.istore_n 3, 1) := by decide +kernel
theorem dX7_ofNet_20 : decode cX7_ofNet 20 = .ok (.iload_n 2, 1) := by decide +kernel
theorem dX7_ofNet_21 : decode cX7_ofNet 21 = .ok (.tableswitch 108 0 6 #[43, 50, 59, 69, 78, 88, 98], 43) := by decide +kernel
theorem dX7_ofNet_64 : decode cX7_ofNet 64 = .ok (.aload_n 0, 1) := by decide +kernel
theorem dX7_ofNet_65 : decode cX7_ofNet 65 = .ok (.getfield 13, 3) := by decide +kernel
theorem dX7_ofNet_68 : decode cX7_ofNet 68 = .ok (.iload_n 3, 1) := by decide +kernel
theorem dX7_ofNet_69 : decode cX7_ofNet 69 = .ok (.iaload, 1) := by decide +kernel
theorem dX7_ofNet_70 : decode cX7_ofNet 70 = .ok (.ireturn, 1) := by decide +kernel
theorem dX7_ofNet_71 : decode cX7_ofNet 71 = .ok (.aload_n 0, 1) := by decide +kernel
theorem dX7_ofNet_72 : decode cX7_ofNet 72 = .ok (.getfield 13, 3) := by decide +kernel
theorem dX7_ofNet_75 : decode cX7_ofNet 75 = .ok (.iload_n 3, 1) := by decide +kernel
theorem dX7_ofNet_76 : decode cX7_ofNet 76 = .ok (.iconst 1, 1) := by decide +kernel
theorem dX7_ofNet_77 : decode cX7_ofNet 77 = .ok (.iadd, 1) := by decide +kernel
theorem dX7_ofNet_78 : decode cX7_ofNet 78 = .ok (.iaload, 1) := by decide +kernel
theorem dX7_ofNet_79 : decode cX7_ofNet 79 = .ok (.ireturn, 1) := by decide +kernel
theorem dX7_ofNet_80 : decode cX7_ofNet 80 = .ok (.aload_n 0, 1) := by decide +kernel
theorem dX7_ofNet_81 : decode cX7_ofNet 81 = .ok (.getfield 13, 3) := by decide +kernel
theorem dX7_ofNet_84 : decode cX7_ofNet 84 = .ok (.iload_n 3, 1) := by decide +kernel
theorem dX7_ofNet_85 : decode cX7_ofNet 85 = .ok (.bipush 6, 2) := by decide +kernel
theorem dX7_ofNet_87 : decode cX7_ofNet 87 = .ok (.iadd, 1) := by decide +kernel
theorem dX7_ofNet_88 : decode cX7_ofNet 88 = .ok (.iaload, 1) := by decide +kernel
theorem dX7_ofNet_89 : decode cX7_ofNet 89 = .ok (.ireturn, 1) := by decide +kernel
theorem dX7_ofNet_90 : decode cX7_ofNet 90 = .ok (.aload_n 0, 1) := by decide +kernel
theorem dX7_ofNet_91 : decode cX7_ofNet 91 = .ok (.getfield 13, 3) := by decide +kernel
theorem dX7_ofNet_94 : decode cX7_ofNet 94 = .ok (.iload_n 3, 1) := by decide +kernel
theorem dX7_ofNet_95 : decode cX7_ofNet 95 = .ok (.iconst 5, 1) := by decide +kernel
theorem dX7_ofNet_96 : decode cX7_ofNet 96 = .ok (.iadd, 1) := by decide +kernel
theorem dX7_ofNet_97 : decode cX7_ofNet 97 = .ok (.iaload, 1) := by decide +kernel
theorem dX7_ofNet_98 : decode cX7_ofNet 98 = .ok (.ireturn, 1) := by decide +kernel
theorem dX7_ofNet_99 : decode cX7_ofNet 99 = .ok (.aload_n 0, 1) := by decide +kernel
theorem dX7_ofNet_100 : decode cX7_ofNet 100 = .ok (.getfield 13, 3) := by decide +kernel
theorem dX7_ofNet_103 : decode cX7_ofNet 103 = .ok (.iload_n 3, 1) := by decide +kernel
theorem dX7_ofNet_104 : decode cX7_ofNet 104 = .ok (.bipush 9, 2) := by decide +kernel
theorem dX7_ofNet_106 : decode cX7_ofNet 106 = .ok (.iadd, 1) := by decide +kernel
theorem dX7_ofNet_107 : decode cX7_ofNet 107 = .ok (.iaload, 1) := by decide +kernel
theorem dX7_ofNet_108 : decode cX7_ofNet 108 = .ok (.ireturn, 1) := by decide +kernel
theorem dX7_ofNet_109 : decode cX7_ofNet 109 = .ok (.aload_n 0, 1) := by decide +kernel
theorem dX7_ofNet_110 : decode cX7_ofNet 110 = .ok (.getfield 13, 3) := by decide +kernel
theorem dX7_ofNet_113 : decode cX7_ofNet 113 = .ok (.iload_n 3, 1) := by decide +kernel
theorem dX7_ofNet_114 : decode cX7_ofNet 114 = .ok (.bipush 15, 2) := by decide +kernel
theorem dX7_ofNet_116 : decode cX7_ofNet 116 = .ok (.iadd, 1) := by decide +kernel
theorem dX7_ofNet_117 : decode cX7_ofNet 117 = .ok (.iaload, 1) := by decide +kernel
theorem dX7_ofNet_118 : decode cX7_ofNet 118 = .ok (.ireturn, 1) := by decide +kernel
theorem dX7_ofNet_119 : decode cX7_ofNet 119 = .ok (.aload_n 0, 1) := by decide +kernel
theorem dX7_ofNet_120 : decode cX7_ofNet 120 = .ok (.getfield 13, 3) := by decide +kernel
theorem dX7_ofNet_123 : decode cX7_ofNet 123 = .ok (.iload_n 3, 1) := by decide +kernel
theorem dX7_ofNet_124 : decode cX7_ofNet 124 = .ok (.bipush 14, 2) := by decide +kernel
theorem dX7_ofNet_126 : decode cX7_ofNet 126 = .ok (.iadd, 1) := by decide +kernel
theorem dX7_ofNet_127 : decode cX7_ofNet 127 = .ok (.iaload, 1) := by decide +kernel
theorem dX7_ofNet_128 : decode cX7_ofNet 128 = .ok (.ireturn, 1) := by decide +kernel
theorem dX7_ofNet_129 : decode cX7_ofNet 129 = .ok (.iconst (-1), 1) := by decide +kernel
theorem dX7_ofNet_130 : decode cX7_ofNet 130 = .ok (.ireturn, 1) := by decide +kernel
theorem dX7_count_0 : decode cX7_count 0 = .ok (.aload_n 0, 1) := by decide +kernel
theorem dX7_count_1 : decode cX7_count 1 = .ok (.iconst 0, 1) := by decide +kernel
theorem dX7_count_2 : decode cX7_count 2 = .ok (.putfield 50, 3) := by decide +kernel
theorem dX7_count_5 : decode cX7_count 5 = .ok (.iload_n 1, 1) := by decide +kernel
theorem dX7_count_6 : decode cX7_count 6 = .ok (.tableswitch 180 0 19 #[94, 102, 109, 117, 125, 130, 137, 144, 151, 158, 180, 180, 180, 180, 180, 180, 180, 180, 163, 171], 94) := by decide +kernel
theorem dX7_count_100 : decode cX7_count 100 = .ok (.aload_n 0, 1) := by decide +kernel
theorem dX7_count_101 : decode cX7_count 101 = .ok (.getfield 13, 3) := by decide +kernel
theorem dX7_count_104 : decode cX7_count 104 = .ok (.bipush 7, 2) := by decide +kernel
theorem dX7_count_106 : decode cX7_count 106 = .ok (.iaload, 1) := by decide +kernel
theorem dX7_count_107 : decode cX7_count 107 = .ok (.ireturn, 1) := by decide +kernel
theorem dX7_count_108 : decode cX7_count 108 = .ok (.aload_n 0, 1) := by decide +kernel
theorem dX7_count_109 : decode cX7_count 109 = .ok (.getfield 13, 3) := by decide +kernel
theorem dX7_count_112 : decode cX7_count 112 = .ok (.iconst 0, 1) := by decide +kernel
theorem dX7_count_113 : decode cX7_count 113 = .ok (.iaload, 1) := by decide +kernel
theorem dX7_count_114 : decode cX7_count 114 = .ok (.ireturn, 1) := by decide +kernel
theorem dX7_count_115 : decode cX7_count 115 = .ok (.aload_n 0, 1) := by decide +kernel
theorem dX7_count_116 : decode cX7_count 116 = .ok (.getfield 13, 3) := by decide +kernel
theorem dX7_count_119 : decode cX7_count 119 = .ok (.bipush 8, 2) := by decide +kernel
theorem dX7_count_121 : decode cX7_count 121 = .ok (.iaload, 1) := by decide +kernel
theorem dX7_count_122 : decode cX7_count 122 = .ok (.ireturn, 1) := by decide +kernel
theorem dX7_count_123 : decode cX7_count 123 = .ok (.aload_n 0, 1) := by decide +kernel
theorem dX7_count_124 : decode cX7_count 124 = .ok (.getfield 13, 3) := by decide +kernel
theorem dX7_count_127 : decode cX7_count 127 = .ok (.bipush 9, 2) := by decide +kernel
theorem dX7_count_129 : decode cX7_count 129 = .ok (.iaload, 1) := by decide +kernel
theorem dX7_count_130 : decode cX7_count 130 = .ok (.ireturn, 1) := by decide +kernel
theorem dX7_count_131 : decode cX7_count 131 = .ok (.aload_n 0, 1) := by decide +kernel
theorem dX7_count_132 : decode cX7_count 132 = .ok (.invokevirtual 283, 3) := by decide +kernel
theorem dX7_count_135 : decode cX7_count 135 = .ok (.ireturn, 1) := by decide +kernel
theorem dX7_count_136 : decode cX7_count 136 = .ok (.aload_n 0, 1) := by decide +kernel
theorem dX7_count_137 : decode cX7_count 137 = .ok (.getfield 7, 3) := by decide +kernel
theorem dX7_count_140 : decode cX7_count 140 = .ok (.iconst 1, 1) := by decide +kernel
theorem dX7_count_141 : decode cX7_count 141 = .ok (.iaload, 1) := by decide +kernel
theorem dX7_count_142 : decode cX7_count 142 = .ok (.ireturn, 1) := by decide +kernel
theorem dX7_count_143 : decode cX7_count 143 = .ok (.aload_n 0, 1) := by decide +kernel
theorem dX7_count_144 : decode cX7_count 144 = .ok (.getfield 7, 3) := by decide +kernel
theorem dX7_count_147 : decode cX7_count 147 = .ok (.iconst 2, 1) := by decide +kernel
theorem dX7_count_148 : decode cX7_count 148 = .ok (.iaload, 1) := by decide +kernel
theorem dX7_count_149 : decode cX7_count 149 = .ok (.ireturn, 1) := by decide +kernel
theorem dX7_count_150 : decode cX7_count 150 = .ok (.aload_n 0, 1) := by decide +kernel
theorem dX7_count_151 : decode cX7_count 151 = .ok (.getfield 7, 3) := by decide +kernel
theorem dX7_count_154 : decode cX7_count 154 = .ok (.iconst 4, 1) := by decide +kernel
theorem dX7_count_155 : decode cX7_count 155 = .ok (.iaload, 1) := by decide +kernel
theorem dX7_count_156 : decode cX7_count 156 = .ok (.ireturn, 1) := by decide +kernel
theorem dX7_count_157 : decode cX7_count 157 = .ok (.aload_n 0, 1) := by decide +kernel
theorem dX7_count_158 : decode cX7_count 158 = .ok (.getfield 7, 3) := by decide +kernel
theorem dX7_count_161 : decode cX7_count 161 = .ok (.iconst 5, 1) := by decide +kernel
theorem dX7_count_162 : decode cX7_count 162 = .ok (.iaload, 1) := by decide +kernel
theorem dX7_count_163 : decode cX7_count 163 = .ok (.ireturn, 1) := by decide +kernel
theorem dX7_count_164 : decode cX7_count 164 = .ok (.aload_n 0, 1) := by decide +kernel
theorem dX7_count_165 : decode cX7_count 165 = .ok (.getfield 57, 3) := by decide +kernel
theorem dX7_count_168 : decode cX7_count 168 = .ok (.ireturn, 1) := by decide +kernel
theorem dX7_count_169 : decode cX7_count 169 = .ok (.aload_n 0, 1) := by decide +kernel
theorem dX7_count_170 : decode cX7_count 170 = .ok (.getfield 13, 3) := by decide +kernel
theorem dX7_count_173 : decode cX7_count 173 = .ok (.bipush 10, 2) := by decide +kernel
theorem dX7_count_175 : decode cX7_count 175 = .ok (.iaload, 1) := by decide +kernel
theorem dX7_count_176 : decode cX7_count 176 = .ok (.ireturn, 1) := by decide +kernel
theorem dX7_count_177 : decode cX7_count 177 = .ok (.aload_n 0, 1) := by decide +kernel
theorem dX7_count_178 : decode cX7_count 178 = .ok (.getfield 13, 3) := by decide +kernel
theorem dX7_count_181 : decode cX7_count 181 = .ok (.sipush 694, 3) := by decide +kernel
theorem dX7_count_184 : decode cX7_count 184 = .ok (.iaload, 1) := by decide +kernel
theorem dX7_count_185 : decode cX7_count 185 = .ok (.ireturn, 1) := by decide +kernel
theorem dX7_count_186 : decode cX7_count 186 = .ok (.iload_n 1, 1) := by decide +kernel
theorem dX7_count_187 : decode cX7_count 187 = .ok (.i2l, 1) := by decide +kernel
theorem dX7_count_188 : decode cX7_count 188 = .ok (.ldc2_w 286, 3) := by decide +kernel
theorem dX7_count_191 : decode cX7_count 191 = .ok (.ldc2_w 288, 3) := by decide +kernel
theorem dX7_count_194 : decode cX7_count 194 = .ok (.invokestatic 71, 3) := by decide +kernel
theorem dX7_count_197 : decode cX7_count 197 = .ok (.ifCond .eq 18, 3) := by decide +kernel
theorem dX7_count_200 : decode cX7_count 200 = .ok (.aload_n 0, 1) := by decide +kernel
theorem dX7_count_201 : decode cX7_count 201 = .ok (.getfield 13, 3) := by decide +kernel
theorem dX7_count_204 : decode cX7_count 204 = .ok (.bipush 11, 2) := by decide +kernel
theorem dX7_count_206 : decode cX7_count 206 = .ok (.iload_n 1, 1) := by decide +kernel
theorem dX7_count_207 : decode cX7_count 207 = .ok (.iadd, 1) := by decide +kernel
theorem dX7_count_208 : decode cX7_count 208 = .ok (.bipush 10, 2) := by decide +kernel
theorem dX7_count_210 : decode cX7_count 210 = .ok (.isub, 1) := by decide +kernel
theorem dX7_count_211 : decode cX7_count 211 = .ok (.iaload, 1) := by decide +kernel
theorem dX7_count_212 : decode cX7_count 212 = .ok (.goto 4, 3) := by decide +kernel
theorem dX7_count_215 : decode cX7_count 215 = .ok (.iconst (-1), 1) := by decide +kernel
theorem dX7_count_216 : decode cX7_count 216 = .ok (.ireturn, 1) := by decide +kernel
theorem dX7_status_0 : decode cX7_status 0 = .ok (.aload_n 0, 1) := by decide +kernel
theorem dX7_status_1 : decode cX7_status 1 = .ok (.iconst 0, 1) := by decide +kernel
theorem dX7_status_2 : decode cX7_status 2 = .ok (.putfield 50, 3) := by decide +kernel
theorem dX7_status_5 : decode cX7_status 5 = .ok (.aload_n 0, 1) := by decide +kernel
theorem dX7_status_6 : decode cX7_status 6 = .ok (.getfield 54, 3) := by decide +kernel
theorem dX7_status_9 : decode cX7_status 9 = .ok (.ireturn, 1) := by decide +kernel
theorem lk_RX7_269 : LkV RX7 269 RX7 yX7_isAhead cX7_isAhead 8 (some .boolean) 3 := ⟨⟨mw_1434, mw_1436, mw_46, mw_59, mw_1437⟩, by decide +kernel⟩
set_option maxHeartbeats 4000000 in
set_option maxRecDepth 100000 in
theorem d_X7_ranked (l : Launch) (E : hE) (ρ r : Nat → Nat → Int32) (Bt : Nat) (hBt : Bt ≤ 1000000) (M : Nat → Int32) (L : Nat → Nat) (X : Nat × Nat → Prop) (a1 : Int32) (a2 : Int32) (hI : RI r Bt M L X ρ) : Met l yX7_ranked (.code yX7_ranked cX7_ranked 7 (some .int) :: gw_all) (rmk 3 120) (cPre E ρ [.ref (E.2.1 + 1076), .int a1, .int a2]) (cI E (fun v ρ1 => RI r Bt M L X ρ1)) 0 0 (hA E) := by
  refine ent (own := RX7) (by decide) rfl (Nat.le_of_ble_eq_true rfl) ?_
  intro p e s m below meth c ls B hr hlk hl hP hS
  have hx := B.1.1
  have hb := B.1.2.1
  have hown := B.1.2.2.2.1
  have hts := B.1.2.2.2.2
  have hl : lv_has ls 7 [(0, .ref (E.2.1 + 1076)), (1, .int a1), (2, .int a2)] := hl
  have b10_0 : ∀ (ls : Array Slot) (ρ : Nat → Nat → Int32) (H : Heap) (locs : List Loc) (d10 : Nat) (x10_3 : Int32) (j10_4 : Nat), lv_has ls 7 [(0, .ref (E.2.1 + 1076)), (1, .int a1), (2, .int a2), (3, .int x10_3), (4, .int (nI j10_4))] → WP E ρ H → va_S (hA E) s.heap H locs → RI r Bt M L X ρ → 24 - j10_4 < d10 → iR x10_3 (-1) (22) → 0 ≤ j10_4 → j10_4 ≤ 23 → W p l e (rmk 3 120) s m ([.ref (E.2.1 + 1076), .int a1, .int a2] : List Value).toArray below meth c H locs 0 0 (MQ below (cI E (fun v ρ1 => RI r Bt M L X ρ1)) ([.ref (E.2.1 + 1076), .int a1, .int a2] : List Value).toArray s 0 0 (hA E)) (F0 m 10 ls []) := by
    intro ls ρ H locs d10
    induction d10 generalizing ls ρ H locs with
    | zero => intro x10_3 j10_4 hl hP hS hI hd10 hx10_3 lj10_4 uj10_4; exact absurd hd10 (Nat.not_lt_zero _)
    | succ d10 ih10 =>
      intro x10_3 j10_4 hl hP hS hI hd10 hx10_3 lj10_4 uj10_4
      have b99_0 : ∀ (ls : Array Slot) (ρ : Nat → Nat → Int32) (H : Heap) (locs : List Loc) (x99_s0 : Int32), lv_has ls 7 [(0, .ref (E.2.1 + 1076)), (1, .int a1), (2, .int a2), (4, .int (nI j10_4))] → WP E ρ H → va_S (hA E) s.heap H locs → RI r Bt M L X ρ → iR x99_s0 (-1) (22) → iR (M (nn a1)) (0) (5) → iR a1 (0) (1) → 0 ≤ (nn a1) → (nn a1) ≤ 1 → 0 ≤ j10_4 → j10_4 ≤ 22 → W p l e (rmk 3 120) s m ([.ref (E.2.1 + 1076), .int a1, .int a2] : List Value).toArray below meth c H locs 0 0 (MQ below (cI E (fun v ρ1 => RI r Bt M L X ρ1)) ([.ref (E.2.1 + 1076), .int a1, .int a2] : List Value).toArray s 0 0 (hA E)) (F0 m 99 ls [.int x99_s0]) := by
        intro ls ρ H locs x99_s0 hl hP hS hI hx99_s0 f_M__nn_a1__ fa1 tl_nn_a1_ tu_nn_a1_ tlj10_4 tuj10_4
        refine lv_istore_n (lv' := [(3, .int x99_s0), (0, .ref (E.2.1 + 1076)), (1, .int a1), (2, .int a2), (4, .int (nI j10_4))]) hx hb dX7_ranked_99 rfl hl (by decide) rfl (fun ls hl => ?_)
        refine lv_iinc (v := (nI (1 + j10_4))) (lv' := [(4, .int (nI (1 + j10_4))), (3, .int x99_s0), (0, .ref (E.2.1 + 1076)), (1, .int a1), (2, .int a2)]) hx hb dX7_ranked_100 hl (k := 4) rfl (show nI j10_4 + nI 1 = _ from (nI_add _ _).trans (congrArg nI (by omega))) (by decide) rfl (fun ls hl => ?_)
        refine lv_goto (tgt := 10) hx hb dX7_ranked_103 (by decide) ?_
        exact ih10 ls ρ _ _ (x99_s0 : Int32) (1 + j10_4) (lv_sub hl [2, 3, 4, 1, 0] rfl) hP hS hI (by omega) (iR_w hx99_s0 (by decide) (by decide)) (by omega) (by omega)
      have b98_0 : ∀ (ls : Array Slot) (ρ : Nat → Nat → Int32) (H : Heap) (locs : List Loc) , lv_has ls 7 [(0, .ref (E.2.1 + 1076)), (1, .int a1), (2, .int a2), (3, .int x10_3), (4, .int (nI j10_4))] → WP E ρ H → va_S (hA E) s.heap H locs → RI r Bt M L X ρ → iR (M (nn a1)) (0) (5) → iR a1 (0) (1) → 0 ≤ (nn a1) → (nn a1) ≤ 1 → 0 ≤ j10_4 → j10_4 ≤ 22 → W p l e (rmk 3 120) s m ([.ref (E.2.1 + 1076), .int a1, .int a2] : List Value).toArray below meth c H locs 0 0 (MQ below (cI E (fun v ρ1 => RI r Bt M L X ρ1)) ([.ref (E.2.1 + 1076), .int a1, .int a2] : List Value).toArray s 0 0 (hA E)) (F0 m 98 ls []) := by
        intro ls ρ H locs  hl hP hS hI f_M__nn_a1__ fa1 tl_nn_a1_ tu_nn_a1_ tlj10_4 tuj10_4
        refine lv_iload_n hx hb dX7_ranked_98 rfl (lv_at hl 3 rfl) ?_
        exact b99_0 ls ρ _ _ (x10_3 : Int32) (lv_sub hl [0, 1, 2, 4] rfl) hP hS hI (iR_w hx10_3 (by decide) (by decide)) (iR_w f_M__nn_a1__ (by decide) (by decide)) (iR_w fa1 (by decide) (by decide)) (by omega) (by omega) (by omega) (by omega)
      have b31_0 : ∀ (ls : Array Slot) (ρ : Nat → Nat → Int32) (H : Heap) (locs : List Loc) (d31 : Nat) (x31_5 : Int32) (j31_6 : Nat), lv_has ls 7 [(0, .ref (E.2.1 + 1076)), (1, .int a1), (2, .int a2), (3, .int x10_3), (4, .int (nI j10_4)), (5, .int x31_5), (6, .int (nI j31_6))] → WP E ρ H → va_S (hA E) s.heap H locs → RI r Bt M L X ρ → 24 - j31_6 < d31 → iR x31_5 (-2147483648) (2147483647) → 0 ≤ j31_6 → j31_6 ≤ 23 → iR (M (nn a1)) (0) (5) → iR a1 (0) (1) → 0 ≤ (nn a1) → (nn a1) ≤ 1 → 0 ≤ j10_4 → j10_4 ≤ 22 → W p l e (rmk 3 120) s m ([.ref (E.2.1 + 1076), .int a1, .int a2] : List Value).toArray below meth c H locs 0 0 (MQ below (cI E (fun v ρ1 => RI r Bt M L X ρ1)) ([.ref (E.2.1 + 1076), .int a1, .int a2] : List Value).toArray s 0 0 (hA E)) (F0 m 31 ls []) := by
        intro ls ρ H locs d31
        induction d31 generalizing ls ρ H locs with
        | zero => intro x31_5 j31_6 hl hP hS hI hd31 hx31_5 lj31_6 uj31_6 f_M__nn_a1__ fa1 tl_nn_a1_ tu_nn_a1_ tlj10_4 tuj10_4; exact absurd hd31 (Nat.not_lt_zero _)
        | succ d31 ih31 =>
          intro x31_5 j31_6 hl hP hS hI hd31 hx31_5 lj31_6 uj31_6 f_M__nn_a1__ fa1 tl_nn_a1_ tu_nn_a1_ tlj10_4 tuj10_4
          have b60_0 : ∀ (ls : Array Slot) (ρ : Nat → Nat → Int32) (H : Heap) (locs : List Loc) , lv_has ls 7 [(0, .ref (E.2.1 + 1076)), (1, .int a1), (2, .int a2), (3, .int x10_3), (4, .int (nI j10_4)), (6, .int (nI j31_6))] → WP E ρ H → va_S (hA E) s.heap H locs → RI r Bt M L X ρ → iR (M (nn a1)) (0) (5) → iR a1 (0) (1) → 0 ≤ (nn a1) → (nn a1) ≤ 1 → 0 ≤ j10_4 → j10_4 ≤ 22 → 0 ≤ j31_6 → j31_6 ≤ 22 → W p l e (rmk 3 120) s m ([.ref (E.2.1 + 1076), .int a1, .int a2] : List Value).toArray below meth c H locs 0 0 (MQ below (cI E (fun v ρ1 => RI r Bt M L X ρ1)) ([.ref (E.2.1 + 1076), .int a1, .int a2] : List Value).toArray s 0 0 (hA E)) (F0 m 60 ls [.int 0, .int x31_5]) := by
            intro ls ρ H locs  hl hP hS hI f_M__nn_a1__ fa1 tl_nn_a1_ tu_nn_a1_ tlj10_4 tuj10_4 tlj31_6 tuj31_6
            refine lv_iadd hx hb dX7_ranked_60 ?_
            refine lv_istore (lv' := [(5, .int (x31_5 + 0)), (0, .ref (E.2.1 + 1076)), (1, .int a1), (2, .int a2), (3, .int x10_3), (4, .int (nI j10_4)), (6, .int (nI j31_6))]) hx hb dX7_ranked_61 hl (by decide) rfl (fun ls hl => ?_)
            refine lv_iinc (v := (nI (1 + j31_6))) (lv' := [(6, .int (nI (1 + j31_6))), (5, .int (x31_5 + 0)), (0, .ref (E.2.1 + 1076)), (1, .int a1), (2, .int a2), (3, .int x10_3), (4, .int (nI j10_4))]) hx hb dX7_ranked_63 hl (k := 6) rfl (show nI j31_6 + nI 1 = _ from (nI_add _ _).trans (congrArg nI (by omega))) (by decide) rfl (fun ls hl => ?_)
            refine lv_goto (tgt := 31) hx hb dX7_ranked_66 (by decide) ?_
            exact ih31 ls ρ _ _ ((x31_5 + 0) : Int32) (1 + j31_6) (lv_sub hl [2, 3, 4, 5, 6, 1, 0] rfl) hP hS hI (by omega) (iR_w (iR_add (a' := -2147483648) (b' := 2147483647) hx31_5 (show iR 0 (0) (0) from ⟨by decide, by decide⟩) (by decide) (by decide) (by decide) (by decide)) (by decide) (by decide)) (by omega) (by omega) (iR_w f_M__nn_a1__ (by decide) (by decide)) (iR_w fa1 (by decide) (by decide)) (by omega) (by omega) (by omega) (by omega)
          have b60_1 : ∀ (ls : Array Slot) (ρ : Nat → Nat → Int32) (H : Heap) (locs : List Loc) , lv_has ls 7 [(0, .ref (E.2.1 + 1076)), (1, .int a1), (2, .int a2), (3, .int x10_3), (4, .int (nI j10_4)), (6, .int (nI j31_6))] → WP E ρ H → va_S (hA E) s.heap H locs → RI r Bt M L X ρ → iR (M (nn a1)) (0) (5) → iR a1 (0) (1) → 0 ≤ (nn a1) → (nn a1) ≤ 1 → 0 ≤ j10_4 → j10_4 ≤ 22 → 0 ≤ j31_6 → j31_6 ≤ 22 → W p l e (rmk 3 120) s m ([.ref (E.2.1 + 1076), .int a1, .int a2] : List Value).toArray below meth c H locs 0 0 (MQ below (cI E (fun v ρ1 => RI r Bt M L X ρ1)) ([.ref (E.2.1 + 1076), .int a1, .int a2] : List Value).toArray s 0 0 (hA E)) (F0 m 60 ls [.int 1, .int x31_5]) := by
            intro ls ρ H locs  hl hP hS hI f_M__nn_a1__ fa1 tl_nn_a1_ tu_nn_a1_ tlj10_4 tuj10_4 tlj31_6 tuj31_6
            refine lv_iadd hx hb dX7_ranked_60 ?_
            refine lv_istore (lv' := [(5, .int (x31_5 + 1)), (0, .ref (E.2.1 + 1076)), (1, .int a1), (2, .int a2), (3, .int x10_3), (4, .int (nI j10_4)), (6, .int (nI j31_6))]) hx hb dX7_ranked_61 hl (by decide) rfl (fun ls hl => ?_)
            refine lv_iinc (v := (nI (1 + j31_6))) (lv' := [(6, .int (nI (1 + j31_6))), (5, .int (x31_5 + 1)), (0, .ref (E.2.1 + 1076)), (1, .int a1), (2, .int a2), (3, .int x10_3), (4, .int (nI j10_4))]) hx hb dX7_ranked_63 hl (k := 6) rfl (show nI j31_6 + nI 1 = _ from (nI_add _ _).trans (congrArg nI (by omega))) (by decide) rfl (fun ls hl => ?_)
            refine lv_goto (tgt := 31) hx hb dX7_ranked_66 (by decide) ?_
            exact ih31 ls ρ _ _ ((x31_5 + 1) : Int32) (1 + j31_6) (lv_sub hl [2, 3, 4, 5, 6, 1, 0] rfl) hP hS hI (by omega) (iR_w (iR_any (x31_5 + 1)) (by decide) (by decide)) (by omega) (by omega) (iR_w f_M__nn_a1__ (by decide) (by decide)) (iR_w fa1 (by decide) (by decide)) (by omega) (by omega) (by omega) (by omega)
          refine lv_iload hx hb dX7_ranked_31 (lv_at hl 6 rfl) ?_
          refine lv_bipush (v := 23) hx hb dX7_ranked_33 (by decide) ?_
          refine lv_icmp_ge (tgt := 69) hx hb dX7_ranked_35 (by decide) (fun c3481 => ?_) (fun c3481 => ?_)
          · skip
            have n3482 := mt (nx_lt (a := j31_6) (b := 23) (by omega) (by omega)).mpr (show ¬ (nI j31_6 < nI 23) from (Int32.not_lt.mpr c3481))
            refine lv_aload_n hx hb dX7_ranked_69 rfl (lv_at hl 0 rfl) ?_
            refine get7 B hP (show hk 1076 = 7 by decide +kernel) 3 (by decide) mw_1030 rfl dX7_ranked_70 ?_
            refine lv_iload_n hx hb dX7_ranked_73 rfl (lv_at hl 1 rfl) ?_
            have := nn_r (x := a1) (a := 0) (b := 1) fa1 (by decide)
            refine lv_topi (fun z3483 ez3483 => ?_)
            obtain rfl : z3483 = nI (nn a1) := ez3483.trans (nn_eq a1)
            refine call_i (cS (av := [.int (nI (nn a1))]) (rest := [.ref (E.2.1 + 1078)]) B hP hS (d_X7_netAt l E ρ r Bt hBt M L X (nn a1) (by omega) (by omega) hI) lk_RX7_75 rfl rfl hl.1 (Nat.le_of_ble_eq_true rfl) ⟨Nat.le_of_ble_eq_true rfl, Nat.le_of_ble_eq_true rfl⟩ ⟨Nat.le_of_ble_eq_true rfl, Nat.le_of_ble_eq_true rfl⟩ dX7_ranked_74) hS (fun r3484 ρ3485 H locs q3486 hP hS => ?_)
            obtain ⟨rfl, hI, q3486⟩ := q3486
            obtain rfl : r3484 = nI (42 + 326 * (nn a1)) := q3486.trans (congrArg nI (by omega))
            refine lv_bipush (v := 16) hx hb dX7_ranked_77 (by decide) ?_
            refine lv_iadd hx hb dX7_ranked_79 ?_
            refine lv_topi (fun z3487 ez3487 => ?_)
            obtain rfl : z3487 = (nI (58 + 326 * (nn a1))) := ez3487.trans (by rw [show (nI (42 + 326 * (nn a1))) = nI (42 + 326 * (nn a1)) from rfl, show 16 = nI 16 from rfl, nI_add] <;> exact congrArg nI (by omega))
            refine lv_iload hx hb dX7_ranked_80 (lv_at hl 4 rfl) ?_
            refine lv_iadd hx hb dX7_ranked_82 ?_
            refine lv_topi (fun z3488 ez3488 => ?_)
            obtain rfl : z3488 = (nI (58 + 326 * (nn a1) + j10_4)) := ez3488.trans (by rw [show (nI (58 + 326 * (nn a1))) = nI (58 + 326 * (nn a1)) from rfl, show (nI j10_4) = nI j10_4 from rfl, nI_add] <;> exact congrArg nI (by omega))
            refine aldn (n := 695) (j := (58 + 326 * (nn a1) + j10_4)) B hP (show hk 1078 = 8 by decide +kernel) (show hlen 1078 = 695 by decide +kernel) rfl (by omega) (by decide) dX7_ranked_83 ?_
            refine lv_if_le (tgt := 98) hx hb dX7_ranked_84 (by decide) (fun c3489 => ?_) (fun c3489 => ?_)
            · skip
              have i3490 : iR (ρ 1078 (58 + 326 * (nn a1) + j10_4)) (-2147483648) (0) := (iR_geR (show iR 0 (0) (0) from ⟨by decide, by decide⟩) (iR_any (ρ 1078 (58 + 326 * (nn a1) + j10_4))) (Int32.not_lt.mpr c3489) (by decide))
              exact b98_0 ls ρ _ _  (lv_sub hl [0, 1, 2, 3, 4] rfl) hP hS hI (iR_w f_M__nn_a1__ (by decide) (by decide)) (iR_w fa1 (by decide) (by decide)) (by omega) (by omega) (by omega) (by omega)
            · skip
              have i3491 : iR (ρ 1078 (58 + 326 * (nn a1) + j10_4)) (1) (2147483647) := (iR_ltR (show iR 0 (0) (0) from ⟨by decide, by decide⟩) (iR_any (ρ 1078 (58 + 326 * (nn a1) + j10_4))) (Int32.not_le.mp c3489) (by decide))
              refine lv_iload hx hb dX7_ranked_87 (lv_at hl 5 rfl) ?_
              refine lv_iload_n hx hb dX7_ranked_89 rfl (lv_at hl 2 rfl) ?_
              refine lv_icmp_ne (tgt := 98) hx hb dX7_ranked_90 (by decide) (fun c3492 => ?_) (fun c3492 => ?_)
              · skip
                exact b98_0 ls ρ _ _  (lv_sub hl [0, 1, 2, 3, 4] rfl) hP hS hI (iR_w f_M__nn_a1__ (by decide) (by decide)) (iR_w fa1 (by decide) (by decide)) (by omega) (by omega) (by omega) (by omega)
              · skip
                refine lv_iload hx hb dX7_ranked_93 (lv_at hl 4 rfl) ?_
                refine lv_goto (tgt := 99) hx hb dX7_ranked_95 (by decide) ?_
                exact b99_0 ls ρ _ _ ((nI j10_4) : Int32) (lv_sub hl [0, 1, 2, 4] rfl) hP hS hI (iR_w (nI_iR (j := j10_4) (a := 0) (b := 22) (by omega) (by omega) (by omega)) (by decide) (by decide)) (iR_w f_M__nn_a1__ (by decide) (by decide)) (iR_w fa1 (by decide) (by decide)) (by omega) (by omega) (by omega) (by omega)
          · skip
            have n3493 := (nx_lt (a := j31_6) (b := 23) (by omega) (by omega)).mp (show (nI j31_6 < nI 23) from (Int32.not_le.mp c3481))
            refine lv_iload hx hb dX7_ranked_38 (lv_at hl 5 rfl) ?_
            refine lv_aload_n hx hb dX7_ranked_40 rfl (lv_at hl 0 rfl) ?_
            refine lv_iload_n hx hb dX7_ranked_41 rfl (lv_at hl 1 rfl) ?_
            have := nn_r (x := a1) (a := 0) (b := 1) fa1 (by decide)
            refine lv_topi (fun z3494 ez3494 => ?_)
            obtain rfl : z3494 = nI (nn a1) := ez3494.trans (nn_eq a1)
            refine call_i (cS (av := [.int (nI (nn a1))]) (rest := [.ref (E.2.1 + 1076), .int x31_5]) B hP hS (d_X7_netAt l E ρ r Bt hBt M L X (nn a1) (by omega) (by omega) hI) lk_RX7_75 rfl rfl hl.1 (Nat.le_of_ble_eq_true rfl) ⟨Nat.le_of_ble_eq_true rfl, Nat.le_of_ble_eq_true rfl⟩ ⟨Nat.le_of_ble_eq_true rfl, Nat.le_of_ble_eq_true rfl⟩ dX7_ranked_42) hS (fun r3495 ρ3496 H locs q3497 hP hS => ?_)
            obtain ⟨rfl, hI, q3497⟩ := q3497
            obtain rfl : r3495 = nI (42 + 326 * (nn a1)) := q3497.trans (congrArg nI (by omega))
            refine lv_iload hx hb dX7_ranked_45 (lv_at hl 6 rfl) ?_
            refine lv_iload hx hb dX7_ranked_47 (lv_at hl 4 rfl) ?_
            refine call_i (cVt (k := 1076) (av := [.int (nI (42 + 326 * (nn a1))), .int (nI j31_6), .int (nI j10_4)]) (rest := [.int x31_5]) B hP hS (d_X7_isAhead l E ρ r Bt hBt M L X (nn a1) (by omega) j31_6 (by omega) (by omega) j10_4 (by omega) (by omega) hI) lk_RX7_269 (hrecv (ci := 7) B hP (hk_lt (c := 7) (show hk 1076 = 7 by decide +kernel) (by decide)) (hcc7 _ _ (show hk 1076 = 7 by decide +kernel)) rfl) rfl rfl hl.1 (Nat.le_of_ble_eq_true rfl) ⟨Nat.le_of_ble_eq_true rfl, Nat.le_of_ble_eq_true rfl⟩ ⟨Nat.le_of_ble_eq_true rfl, Nat.le_of_ble_eq_true rfl⟩ dX7_ranked_49) hS (fun r3498 ρ3499 H locs q3500 hP hS => ?_)
            obtain ⟨rfl, hI, q3500⟩ := q3500
            obtain ⟨j3501, lj3501, uj3501, ej3501⟩ := iR_nat (a := 0) (b := 1) q3500
            refine lv_topi (fun z3502 ez3502 => ?_)
            obtain rfl : z3502 = nI j3501 := ez3502.trans ej3501
            refine lv_if_eq (tgt := 59) hx hb dX7_ranked_52 (by decide) (fun c3503 => ?_) (fun c3503 => ?_)
            · skip
              have n3504 := (nI_eq (a := j3501) (b := 0) (by omega) (by omega)).mp (show (nI j3501 = nI 0) from c3503)
              refine lv_iconst (v := 0) hx hb dX7_ranked_59 (by decide) ?_
              exact b60_0 ls ρ _ _  (lv_sub hl [0, 1, 2, 3, 4, 6] rfl) hP hS hI (iR_w f_M__nn_a1__ (by decide) (by decide)) (iR_w fa1 (by decide) (by decide)) (by omega) (by omega) (by omega) (by omega) (by omega) (by omega)
            · skip
              have n3505 := mt (nI_eq (a := j3501) (b := 0) (by omega) (by omega)).mpr (show ¬ (nI j3501 = nI 0) from c3503)
              refine lv_iconst (v := 1) hx hb dX7_ranked_55 (by decide) ?_
              refine lv_goto (tgt := 60) hx hb dX7_ranked_56 (by decide) ?_
              exact b60_1 ls ρ _ _  (lv_sub hl [0, 1, 2, 3, 4, 6] rfl) hP hS hI (iR_w f_M__nn_a1__ (by decide) (by decide)) (iR_w fa1 (by decide) (by decide)) (by omega) (by omega) (by omega) (by omega) (by omega) (by omega)
      refine lv_aload_n hx hb dX7_ranked_10 rfl (lv_at hl 0 rfl) ?_
      refine lv_iload_n hx hb dX7_ranked_11 rfl (lv_at hl 1 rfl) ?_
      refine call_i (cVt (k := 1076) (av := [.int a1]) (rest := []) B hP hS (d_X7_isNet l E ρ r Bt hBt M L X a1 hI) lk_RX7_78 (hrecv (ci := 7) B hP (hk_lt (c := 7) (show hk 1076 = 7 by decide +kernel) (by decide)) (hcc7 _ _ (show hk 1076 = 7 by decide +kernel)) rfl) rfl rfl hl.1 (Nat.le_of_ble_eq_true rfl) ⟨Nat.le_of_ble_eq_true rfl, Nat.le_of_ble_eq_true rfl⟩ ⟨Nat.le_of_ble_eq_true rfl, Nat.le_of_ble_eq_true rfl⟩ dX7_ranked_12) hS (fun r3506 ρ3507 H locs q3508 hP hS => ?_)
      obtain ⟨rfl, hI, q3508⟩ := q3508
      rcases q3508 with rfl | ⟨rfl, j3509, hj3509, ej3509, i3510⟩
      · skip
        refine lv_if_eq (tgt := 106) hx hb dX7_ranked_15 (by decide) (fun _ => ?_) (fun c3511 => absurd rfl c3511)
        refine lv_iload_n hx hb dX7_ranked_106 rfl (lv_at hl 3 rfl) ?_
        exact ret_i B hr hlk hP hS dX7_ranked_107 (hI)
      · skip
        have n3512 : nn a1 = j3509 := nn_u ej3509 (by omega)
        have i3513 : iR (M (nn a1)) 0 5 := by rw [n3512]; exact i3510
        refine lv_if_eq (tgt := 106) hx hb dX7_ranked_15 (by decide) (fun c3514 => absurd c3514 (iR_ne (show iR 1 (1) (1) from ⟨by decide, by decide⟩) (show iR 0 (0) (0) from ⟨by decide, by decide⟩) (by decide))) (fun _ => ?_)
        refine lv_iload hx hb dX7_ranked_18 (lv_at hl 4 rfl) ?_
        refine lv_bipush (v := 23) hx hb dX7_ranked_20 (by decide) ?_
        refine lv_icmp_ge (tgt := 106) hx hb dX7_ranked_22 (by decide) (fun c3515 => ?_) (fun c3515 => ?_)
        · skip
          have n3516 := mt (nx_lt (a := j10_4) (b := 23) (by omega) (by omega)).mpr (show ¬ (nI j10_4 < nI 23) from (Int32.not_lt.mpr c3515))
          refine lv_iload_n hx hb dX7_ranked_106 rfl (lv_at hl 3 rfl) ?_
          exact ret_i B hr hlk hP hS dX7_ranked_107 (hI)
        · skip
          have n3517 := (nx_lt (a := j10_4) (b := 23) (by omega) (by omega)).mp (show (nI j10_4 < nI 23) from (Int32.not_le.mp c3515))
          refine lv_iconst (v := 0) hx hb dX7_ranked_25 (by decide) ?_
          refine lv_istore (lv' := [(5, .int 0), (0, .ref (E.2.1 + 1076)), (1, .int a1), (2, .int a2), (3, .int x10_3), (4, .int (nI j10_4))]) hx hb dX7_ranked_26 hl (by decide) rfl (fun ls hl => ?_)
          refine lv_iconst (v := 0) hx hb dX7_ranked_28 (by decide) ?_
          refine lv_istore (lv' := [(6, .int 0), (5, .int 0), (0, .ref (E.2.1 + 1076)), (1, .int a1), (2, .int a2), (3, .int x10_3), (4, .int (nI j10_4))]) hx hb dX7_ranked_29 hl (by decide) rfl (fun ls hl => ?_)
          exact b31_0 ls ρ _ _ _ (0 : Int32) 0 (lv_sub hl [2, 3, 4, 5, 6, 1, 0] rfl) hP hS hI (Nat.lt_succ_self _) (iR_w (show iR 0 (0) (0) from ⟨by decide, by decide⟩) (by decide) (by decide)) (by omega) (by omega) (iR_w i3513 (by decide) (by decide)) (iR_w (show iR a1 0 1 from by rw [ej3509]; exact nI_iR (by omega) (by omega) (by omega)) (by decide) (by decide)) (by omega) (by omega) (by omega) (by omega)
  refine lv_aload_n hx hb dX7_ranked_0 rfl (lv_at hl 0 rfl) ?_
  refine lv_iconst (v := 0) hx hb dX7_ranked_1 (by decide) ?_
  refine put7 B hP hS (show hk 1076 = 7 by decide +kernel) 0 (by decide) mw_1027 rfl rfl rfl (fs7_0 E 1076 _ _) dX7_ranked_2 (fun H locs hP hS => ?_)
  obtain ⟨ρ3518, e3519⟩ : ∃ z, z = up ρ 1076 0 0 := ⟨_, rfl⟩
  rw [← e3519] at hP
  have hI : RI r Bt M L X ρ3518 := by rw [e3519]; exact RI_76 hI (by decide)
  refine lv_iconst (v := (-1)) hx hb dX7_ranked_5 (by decide) ?_
  refine lv_istore_n (lv' := [(3, .int (-1)), (0, .ref (E.2.1 + 1076)), (1, .int a1), (2, .int a2)]) hx hb dX7_ranked_6 rfl hl (by decide) rfl (fun ls hl => ?_)
  refine lv_iconst (v := 0) hx hb dX7_ranked_7 (by decide) ?_
  refine lv_istore (lv' := [(4, .int 0), (3, .int (-1)), (0, .ref (E.2.1 + 1076)), (1, .int a1), (2, .int a2)]) hx hb dX7_ranked_8 hl (by decide) rfl (fun ls hl => ?_)
  exact b10_0 ls ρ3518 _ _ _ ((-1) : Int32) 0 (lv_sub hl [2, 3, 4, 1, 0] rfl) hP hS hI (Nat.lt_succ_self _) (iR_w (show iR (-1) (-1) (-1) from ⟨by decide, by decide⟩) (by decide) (by decide)) (by omega) (by omega)

set_option maxHeartbeats 4000000 in
set_option maxRecDepth 100000 in
theorem d_X7_quiet (l : Launch) (E : hE) (ρ r : Nat → Nat → Int32) (Bt : Nat) (hBt : Bt ≤ 1000000) (M : Nat → Int32) (L : Nat → Nat) (X : Nat × Nat → Prop) (a1 : Int32) (a2 : Int32) (hI : RI r Bt M L X ρ) : Met l yX7_quiet (.code yX7_quiet cX7_quiet 5 (some .int) :: gw_all) (rmk 3 120) (cPre E ρ [.ref (E.2.1 + 1076), .int a1, .int a2]) (cI E (fun v ρ1 => RI r Bt M L X ρ1)) 0 0 (hA E) := by
  refine ent (own := RX7) (by decide) rfl (Nat.le_of_ble_eq_true rfl) ?_
  intro p e s m below meth c ls B hr hlk hl hP hS
  have hx := B.1.1
  have hb := B.1.2.1
  have hown := B.1.2.2.2.1
  have hts := B.1.2.2.2.2
  have hl : lv_has ls 5 [(0, .ref (E.2.1 + 1076)), (1, .int a1), (2, .int a2)] := hl
  have b32_0 : ∀ (ls : Array Slot) (ρ : Nat → Nat → Int32) (H : Heap) (locs : List Loc) (d32 : Nat) (x32_3 : Int32) (j32_4 : Nat), lv_has ls 5 [(0, .ref (E.2.1 + 1076)), (1, .int a1), (2, .int a2), (3, .int x32_3), (4, .int (nI j32_4))] → WP E ρ H → va_S (hA E) s.heap H locs → RI r Bt M L X ρ → 5 - j32_4 < d32 → iR x32_3 (0) (8388607) → 0 ≤ j32_4 → j32_4 ≤ 4 → iR (M (nn a1)) (0) (5) → iR a1 (0) (1) → iR a2 (0) (9999) → 0 ≤ (nn a1) → (nn a1) ≤ 1 → W p l e (rmk 3 120) s m ([.ref (E.2.1 + 1076), .int a1, .int a2] : List Value).toArray below meth c H locs 0 0 (MQ below (cI E (fun v ρ1 => RI r Bt M L X ρ1)) ([.ref (E.2.1 + 1076), .int a1, .int a2] : List Value).toArray s 0 0 (hA E)) (F0 m 32 ls []) := by
    intro ls ρ H locs d32
    induction d32 generalizing ls ρ H locs with
    | zero => intro x32_3 j32_4 hl hP hS hI hd32 hx32_3 lj32_4 uj32_4 f_M__nn_a1__ fa1 fa2 tl_nn_a1_ tu_nn_a1_; exact absurd hd32 (Nat.not_lt_zero _)
    | succ d32 ih32 =>
      intro x32_3 j32_4 hl hP hS hI hd32 hx32_3 lj32_4 uj32_4 f_M__nn_a1__ fa1 fa2 tl_nn_a1_ tu_nn_a1_
      have b86_0 : ∀ (ls : Array Slot) (ρ : Nat → Nat → Int32) (H : Heap) (locs : List Loc) (j86_s0 : Nat) (x86_s1 : Int32), lv_has ls 5 [(0, .ref (E.2.1 + 1076)), (1, .int a1), (2, .int a2), (4, .int (nI j32_4))] → WP E ρ H → va_S (hA E) s.heap H locs → RI r Bt M L X ρ → 0 ≤ j86_s0 → j86_s0 ≤ 8388607 → iR x86_s1 (1) (4194304) → iR (M (nn a1)) (0) (5) → iR a1 (0) (1) → iR a2 (0) (9999) → 1 ≤ (L (nn a1)) → (L (nn a1)) ≤ 4 → 0 ≤ (nn a1) → (nn a1) ≤ 1 → 0 ≤ (nn a2) → (nn a2) ≤ 9999 → 0 ≤ j32_4 → j32_4 ≤ 3 → j32_4 + 1 ≤ L (nn a1) → W p l e (rmk 3 120) s m ([.ref (E.2.1 + 1076), .int a1, .int a2] : List Value).toArray below meth c H locs 0 0 (MQ below (cI E (fun v ρ1 => RI r Bt M L X ρ1)) ([.ref (E.2.1 + 1076), .int a1, .int a2] : List Value).toArray s 0 0 (hA E)) (F0 m 86 ls [.int x86_s1, .int (nI j86_s0)]) := by
        intro ls ρ H locs j86_s0 x86_s1 hl hP hS hI lj86_s0 uj86_s0 hx86_s1 f_M__nn_a1__ fa1 fa2 tl_L__nn_a1__ tu_L__nn_a1__ tl_nn_a1_ tu_nn_a1_ tl_nn_a2_ tu_nn_a2_ tlj32_4 tuj32_4 hr86_0
        refine lv_ior hx hb dX7_quiet_86 ?_
        refine lv_istore_n (lv' := [(3, .int ((nI j86_s0) ||| x86_s1)), (0, .ref (E.2.1 + 1076)), (1, .int a1), (2, .int a2), (4, .int (nI j32_4))]) hx hb dX7_quiet_87 rfl hl (by decide) rfl (fun ls hl => ?_)
        refine lv_iinc (v := (nI (1 + j32_4))) (lv' := [(4, .int (nI (1 + j32_4))), (3, .int ((nI j86_s0) ||| x86_s1)), (0, .ref (E.2.1 + 1076)), (1, .int a1), (2, .int a2)]) hx hb dX7_quiet_88 hl (k := 4) rfl (show nI j32_4 + nI 1 = _ from (nI_add _ _).trans (congrArg nI (by omega))) (by decide) rfl (fun ls hl => ?_)
        refine lv_goto (tgt := 32) hx hb dX7_quiet_91 (by decide) ?_
        exact ih32 ls ρ _ _ (((nI j86_s0) ||| x86_s1) : Int32) (1 + j32_4) (lv_sub hl [2, 3, 4, 1, 0] rfl) hP hS hI (by omega) (iR_w (iR_or (iR_w (nI_iR (j := j86_s0) (a := 0) (b := 8388607) (by omega) (by omega) (by omega)) (by decide) (by decide)) (iR_w hx86_s1 (by decide) (by decide))) (by decide) (by decide)) (by omega) (by omega) (iR_w f_M__nn_a1__ (by decide) (by decide)) (iR_w fa1 (by decide) (by decide)) (iR_w fa2 (by decide) (by decide)) (by omega) (by omega)
      have b86_1 : ∀ (ls : Array Slot) (ρ : Nat → Nat → Int32) (H : Heap) (locs : List Loc) (j86_s0 : Nat), lv_has ls 5 [(0, .ref (E.2.1 + 1076)), (1, .int a1), (2, .int a2), (4, .int (nI j32_4))] → WP E ρ H → va_S (hA E) s.heap H locs → RI r Bt M L X ρ → 0 ≤ j86_s0 → j86_s0 ≤ 8388607 → iR (M (nn a1)) (0) (5) → iR a1 (0) (1) → iR a2 (0) (9999) → 1 ≤ (L (nn a1)) → (L (nn a1)) ≤ 4 → 0 ≤ (nn a1) → (nn a1) ≤ 1 → 0 ≤ (nn a2) → (nn a2) ≤ 9999 → 0 ≤ j32_4 → j32_4 ≤ 3 → j32_4 + 1 ≤ L (nn a1) → W p l e (rmk 3 120) s m ([.ref (E.2.1 + 1076), .int a1, .int a2] : List Value).toArray below meth c H locs 0 0 (MQ below (cI E (fun v ρ1 => RI r Bt M L X ρ1)) ([.ref (E.2.1 + 1076), .int a1, .int a2] : List Value).toArray s 0 0 (hA E)) (F0 m 86 ls [.int 0, .int (nI j86_s0)]) := by
        intro ls ρ H locs j86_s0 hl hP hS hI lj86_s0 uj86_s0 f_M__nn_a1__ fa1 fa2 tl_L__nn_a1__ tu_L__nn_a1__ tl_nn_a1_ tu_nn_a1_ tl_nn_a2_ tu_nn_a2_ tlj32_4 tuj32_4 hr86_0
        refine lv_ior hx hb dX7_quiet_86 ?_
        refine lv_istore_n (lv' := [(3, .int ((nI j86_s0) ||| 0)), (0, .ref (E.2.1 + 1076)), (1, .int a1), (2, .int a2), (4, .int (nI j32_4))]) hx hb dX7_quiet_87 rfl hl (by decide) rfl (fun ls hl => ?_)
        refine lv_iinc (v := (nI (1 + j32_4))) (lv' := [(4, .int (nI (1 + j32_4))), (3, .int ((nI j86_s0) ||| 0)), (0, .ref (E.2.1 + 1076)), (1, .int a1), (2, .int a2)]) hx hb dX7_quiet_88 hl (k := 4) rfl (show nI j32_4 + nI 1 = _ from (nI_add _ _).trans (congrArg nI (by omega))) (by decide) rfl (fun ls hl => ?_)
        refine lv_goto (tgt := 32) hx hb dX7_quiet_91 (by decide) ?_
        exact ih32 ls ρ _ _ (((nI j86_s0) ||| 0) : Int32) (1 + j32_4) (lv_sub hl [2, 3, 4, 1, 0] rfl) hP hS hI (by omega) (iR_w (iR_or (iR_w (nI_iR (j := j86_s0) (a := 0) (b := 8388607) (by omega) (by omega) (by omega)) (by decide) (by decide)) (iR_w (show iR 0 (0) (0) from ⟨by decide, by decide⟩) (by decide) (by decide))) (by decide) (by decide)) (by omega) (by omega) (iR_w f_M__nn_a1__ (by decide) (by decide)) (iR_w fa1 (by decide) (by decide)) (iR_w fa2 (by decide) (by decide)) (by omega) (by omega)
      refine lv_iload hx hb dX7_quiet_32 (lv_at hl 4 rfl) ?_
      refine lv_aload_n hx hb dX7_quiet_34 rfl (lv_at hl 0 rfl) ?_
      refine get7 B hP (show hk 1076 = 7 by decide +kernel) 3 (by decide) mw_1030 rfl dX7_quiet_35 ?_
      refine lv_iload_n hx hb dX7_quiet_38 rfl (lv_at hl 1 rfl) ?_
      have := nn_r (x := a1) (a := 0) (b := 1) fa1 (by decide)
      refine lv_topi (fun z148 ez148 => ?_)
      obtain rfl : z148 = nI (nn a1) := ez148.trans (nn_eq a1)
      refine call_i (cS (av := [.int (nI (nn a1))]) (rest := [.ref (E.2.1 + 1078), .int (nI j32_4)]) B hP hS (d_X7_netAt l E ρ r Bt hBt M L X (nn a1) (by omega) (by omega) hI) lk_RX7_75 rfl rfl hl.1 (Nat.le_of_ble_eq_true rfl) ⟨Nat.le_of_ble_eq_true rfl, Nat.le_of_ble_eq_true rfl⟩ ⟨Nat.le_of_ble_eq_true rfl, Nat.le_of_ble_eq_true rfl⟩ dX7_quiet_39) hS (fun r149 ρ150 H locs q151 hP hS => ?_)
      obtain ⟨rfl, hI, q151⟩ := q151
      obtain rfl : r149 = nI (42 + 326 * (nn a1)) := q151.trans (congrArg nI (by omega))
      refine lv_bipush (v := 6) hx hb dX7_quiet_42 (by decide) ?_
      refine lv_iadd hx hb dX7_quiet_44 ?_
      refine lv_topi (fun z152 ez152 => ?_)
      obtain rfl : z152 = (nI (48 + 326 * (nn a1))) := ez152.trans (by rw [show (nI (42 + 326 * (nn a1))) = nI (42 + 326 * (nn a1)) from rfl, show 6 = nI 6 from rfl, nI_add] <;> exact congrArg nI (by omega))
      have := RI_Lb (n := (nn a1)) hI (by omega)
      refine aldf (n := 695) (j := (48 + 326 * (nn a1))) (v := (nI (L (nn a1)))) B hP (show hk 1078 = 8 by decide +kernel) (show hlen 1078 = 695 by decide +kernel) rfl (by omega) (by decide) (g_l (n0 := (nn a1)) hI (by omega) (by omega)) dX7_quiet_45 ?_
      refine lv_icmp_ge (tgt := 94) hx hb dX7_quiet_46 (by decide) (fun c153 => ?_) (fun c153 => ?_)
      · skip
        have n154 := mt (nx_lt (a := j32_4) (b := (L (nn a1))) (by omega) (by omega)).mpr (show ¬ (nI j32_4 < nI (L (nn a1))) from (Int32.not_lt.mpr c153))
        refine lv_iload_n hx hb dX7_quiet_94 rfl (lv_at hl 3 rfl) ?_
        obtain ⟨j155, lj155, uj155, ej155⟩ := iR_nat (a := 0) (b := 8388607) hx32_3
        refine lv_topi (fun z156 ez156 => ?_)
        obtain rfl : z156 = nI j155 := ez156.trans ej155
        exact ret_i B hr hlk hP hS dX7_quiet_95 (hI)
      · skip
        have n157 := (nx_lt (a := j32_4) (b := (L (nn a1))) (by omega) (by omega)).mp (show (nI j32_4 < nI (L (nn a1))) from (Int32.not_le.mp c153))
        refine lv_iload_n hx hb dX7_quiet_49 rfl (lv_at hl 3 rfl) ?_
        obtain ⟨j158, lj158, uj158, ej158⟩ := iR_nat (a := 0) (b := 8388607) hx32_3
        refine lv_topi (fun z159 ez159 => ?_)
        obtain rfl : z159 = nI j158 := ez159.trans ej158
        refine lv_aload_n hx hb dX7_quiet_50 rfl (lv_at hl 0 rfl) ?_
        refine get7 B hP (show hk 1076 = 7 by decide +kernel) 3 (by decide) mw_1030 rfl dX7_quiet_51 ?_
        refine lv_bipush (v := 7) hx hb dX7_quiet_54 (by decide) ?_
        refine aldn (n := 695) (j := 7) B hP (show hk 1078 = 8 by decide +kernel) (show hlen 1078 = 695 by decide +kernel) rfl (by omega) (by decide) dX7_quiet_56 ?_
        have i160 : iR (ρ 1078 7) (0) (1000000) := (iR_w (g_time hI) (by omega) (by omega))
        obtain ⟨j161, lj161, uj161, ej161⟩ := iR_nat (a := 0) (b := 1000000) i160
        refine lv_topi (fun z162 ez162 => ?_)
        obtain rfl : z162 = nI j161 := ez162.trans ej161
        refine lv_aload_n hx hb dX7_quiet_57 rfl (lv_at hl 0 rfl) ?_
        refine get7 B hP (show hk 1076 = 7 by decide +kernel) 3 (by decide) mw_1030 rfl dX7_quiet_58 ?_
        refine lv_iload_n hx hb dX7_quiet_61 rfl (lv_at hl 1 rfl) ?_
        refine lv_topi (fun z163 ez163 => ?_)
        obtain rfl : z163 = nI (nn a1) := ez163.trans (nn_eq a1)
        refine lv_iload hx hb dX7_quiet_62 (lv_at hl 4 rfl) ?_
        refine call_i (cS (av := [.int (nI (nn a1)), .int (nI j32_4)]) (rest := [.ref (E.2.1 + 1078), .int (nI j161), .int (nI j158)]) B hP hS (d_X7_linkAt l E ρ r Bt hBt M L X (nn a1) (by omega) (by omega) j32_4 (by omega) (by omega) hI) lk_RX7_82 rfl rfl hl.1 (Nat.le_of_ble_eq_true rfl) ⟨Nat.le_of_ble_eq_true rfl, Nat.le_of_ble_eq_true rfl⟩ ⟨Nat.le_of_ble_eq_true rfl, Nat.le_of_ble_eq_true rfl⟩ dX7_quiet_64) hS (fun r164 ρ165 H locs q166 hP hS => ?_)
        obtain ⟨rfl, hI, q166⟩ := q166
        obtain rfl : r164 = nI (104 + 326 * (nn a1) + 66 * j32_4) := q166.trans (congrArg nI (by omega))
        refine lv_bipush (v := 49) hx hb dX7_quiet_67 (by decide) ?_
        refine lv_iadd hx hb dX7_quiet_69 ?_
        refine lv_topi (fun z167 ez167 => ?_)
        obtain rfl : z167 = (nI (153 + 326 * (nn a1) + 66 * j32_4)) := ez167.trans (by rw [show (nI (104 + 326 * (nn a1) + 66 * j32_4)) = nI (104 + 326 * (nn a1) + 66 * j32_4) from rfl, show 49 = nI 49 from rfl, nI_add] <;> exact congrArg nI (by omega))
        refine aldn (n := 695) (j := (153 + 326 * (nn a1) + 66 * j32_4)) B hP (show hk 1078 = 8 by decide +kernel) (show hlen 1078 = 695 by decide +kernel) rfl (by omega) (by decide) dX7_quiet_70 ?_
        refine lv_isub hx hb dX7_quiet_71 ?_
        refine lv_iconst (v := 2) hx hb dX7_quiet_72 (by decide) ?_
        refine lv_idiv hx hb dX7_quiet_73 (by decide) ?_
        refine lv_iload_n hx hb dX7_quiet_74 rfl (lv_at hl 2 rfl) ?_
        have := nn_r (x := a2) (a := 0) (b := 9999) fa2 (by decide)
        refine lv_topi (fun z168 ez168 => ?_)
        obtain rfl : z168 = nI (nn a2) := ez168.trans (nn_eq a2)
        refine lv_icmp_lt (tgt := 85) hx hb dX7_quiet_75 (by decide) (fun c169 => ?_) (fun c169 => ?_)
        · skip
          have i170 : iR (((nI j161) - (ρ 1078 (153 + 326 * (nn a1) + 66 * j32_4))) / 2) (-2147483648) (9998) := (iR_ltL (iR_any (((nI j161) - (ρ 1078 (153 + 326 * (nn a1) + 66 * j32_4))) / 2)) (nI_iR (j := (nn a2)) (a := 0) (b := 9999) (by omega) (by omega) (by omega)) c169 (by decide))
          refine lv_iconst (v := 0) hx hb dX7_quiet_85 (by decide) ?_
          exact b86_1 ls ρ _ _ j158 (lv_sub hl [0, 1, 2, 4] rfl) hP hS hI (by omega) (by omega) (iR_w f_M__nn_a1__ (by decide) (by decide)) (iR_w fa1 (by decide) (by decide)) (iR_w fa2 (by decide) (by decide)) (by omega) (by omega) (by omega) (by omega) (by omega) (by omega) (by omega) (by omega) (by omega)
        · skip
          have i171 : iR (((nI j161) - (ρ 1078 (153 + 326 * (nn a1) + 66 * j32_4))) / 2) (0) (2147483647) := (iR_geL (iR_any (((nI j161) - (ρ 1078 (153 + 326 * (nn a1) + 66 * j32_4))) / 2)) (nI_iR (j := (nn a2)) (a := 0) (b := 9999) (by omega) (by omega) (by omega)) c169 (by decide))
          refine lv_iconst (v := 1) hx hb dX7_quiet_78 (by decide) ?_
          refine lv_iload hx hb dX7_quiet_79 (lv_at hl 4 rfl) ?_
          refine lv_ishl hx hb dX7_quiet_81 ?_
          refine lv_goto (tgt := 86) hx hb dX7_quiet_82 (by decide) ?_
          exact b86_0 ls ρ _ _ j158 ((1 <<< (((nI j32_4) : Int32) &&& 31)) : Int32) (lv_sub hl [0, 1, 2, 4] rfl) hP hS hI (by omega) (by omega) (iR_w (iR_shl1 (c := j32_4) (by omega)) (by decide) (by decide)) (iR_w f_M__nn_a1__ (by decide) (by decide)) (iR_w fa1 (by decide) (by decide)) (iR_w fa2 (by decide) (by decide)) (by omega) (by omega) (by omega) (by omega) (by omega) (by omega) (by omega) (by omega) (by omega)
  refine lv_aload_n hx hb dX7_quiet_0 rfl (lv_at hl 0 rfl) ?_
  refine lv_iconst (v := 0) hx hb dX7_quiet_1 (by decide) ?_
  refine put7 B hP hS (show hk 1076 = 7 by decide +kernel) 0 (by decide) mw_1027 rfl rfl rfl (fs7_0 E 1076 _ _) dX7_quiet_2 (fun H locs hP hS => ?_)
  obtain ⟨ρ172, e173⟩ : ∃ z, z = up ρ 1076 0 0 := ⟨_, rfl⟩
  rw [← e173] at hP
  have hI : RI r Bt M L X ρ172 := by rw [e173]; exact RI_76 hI (by decide)
  refine lv_aload_n hx hb dX7_quiet_5 rfl (lv_at hl 0 rfl) ?_
  refine lv_iload_n hx hb dX7_quiet_6 rfl (lv_at hl 1 rfl) ?_
  refine call_i (cVt (k := 1076) (av := [.int a1]) (rest := []) B hP hS (d_X7_isNet l E ρ172 r Bt hBt M L X a1 hI) lk_RX7_78 (hrecv (ci := 7) B hP (hk_lt (c := 7) (show hk 1076 = 7 by decide +kernel) (by decide)) (hcc7 _ _ (show hk 1076 = 7 by decide +kernel)) rfl) rfl rfl hl.1 (Nat.le_of_ble_eq_true rfl) ⟨Nat.le_of_ble_eq_true rfl, Nat.le_of_ble_eq_true rfl⟩ ⟨Nat.le_of_ble_eq_true rfl, Nat.le_of_ble_eq_true rfl⟩ dX7_quiet_7) hS (fun r174 ρ175 H locs q176 hP hS => ?_)
  obtain ⟨rfl, hI, q176⟩ := q176
  rcases q176 with rfl | ⟨rfl, j177, hj177, ej177, i178⟩
  · skip
    refine lv_if_eq (tgt := 25) hx hb dX7_quiet_10 (by decide) (fun _ => ?_) (fun c179 => absurd rfl c179)
    refine lv_iconst (v := (-1)) hx hb dX7_quiet_25 (by decide) ?_
    exact ret_i B hr hlk hP hS dX7_quiet_26 (hI)
  · skip
    have n180 : nn a1 = j177 := nn_u ej177 (by omega)
    have i181 : iR (M (nn a1)) 0 5 := by rw [n180]; exact i178
    refine lv_if_eq (tgt := 25) hx hb dX7_quiet_10 (by decide) (fun c182 => absurd c182 (iR_ne (show iR 1 (1) (1) from ⟨by decide, by decide⟩) (show iR 0 (0) (0) from ⟨by decide, by decide⟩) (by decide))) (fun _ => ?_)
    refine lv_iload_n hx hb dX7_quiet_13 rfl (lv_at hl 2 rfl) ?_
    refine lv_i2l hx hb dX7_quiet_14 rfl ?_
    refine lv_lconst (v := 0) hx hb dX7_quiet_15 (by decide) ?_
    refine lv_ldc2 (v := 9999) hx hb hown (hts _ mw_1442) dX7_quiet_16 ?_
    refine call_i (cS (av := [.long a2.toInt64, .long 0, .long 9999]) (rest := []) B hP hS (c_in l E ρ172 a2.toInt64 0 9999 0 9999 (by decide) (by decide)) lk_RX7_71 rfl rfl hl.1 (Nat.le_of_ble_eq_true rfl) ⟨Nat.le_of_ble_eq_true rfl, Nat.le_of_ble_eq_true rfl⟩ ⟨Nat.le_of_ble_eq_true rfl, Nat.le_of_ble_eq_true rfl⟩ dX7_quiet_19) hS (fun r183 ρ184 H locs q185 hP hS => ?_)
    obtain ⟨rfl, q185⟩ := q185
    rcases q185 with ⟨rfl, q185⟩ | ⟨rfl, q185⟩
    · skip
      have i186 : iR a2 0 9999 := (lR_i _ _ _).mp q185
      refine lv_if_ne (tgt := 27) hx hb dX7_quiet_22 (by decide) (fun _ => ?_) (fun c187 => absurd c187 (iR_ne (show iR 1 (1) (1) from ⟨by decide, by decide⟩) (show iR 0 (0) (0) from ⟨by decide, by decide⟩) (by decide)))
      refine lv_iconst (v := 0) hx hb dX7_quiet_27 (by decide) ?_
      refine lv_istore_n (lv' := [(3, .int 0), (0, .ref (E.2.1 + 1076)), (1, .int a1), (2, .int a2)]) hx hb dX7_quiet_28 rfl hl (by decide) rfl (fun ls hl => ?_)
      refine lv_iconst (v := 0) hx hb dX7_quiet_29 (by decide) ?_
      refine lv_istore (lv' := [(4, .int 0), (3, .int 0), (0, .ref (E.2.1 + 1076)), (1, .int a1), (2, .int a2)]) hx hb dX7_quiet_30 hl (by decide) rfl (fun ls hl => ?_)
      exact b32_0 ls ρ172 _ _ _ (0 : Int32) 0 (lv_sub hl [2, 3, 4, 1, 0] rfl) hP hS hI (Nat.lt_succ_self _) (iR_w (show iR 0 (0) (0) from ⟨by decide, by decide⟩) (by decide) (by decide)) (by omega) (by omega) (iR_w i181 (by decide) (by decide)) (iR_w (show iR a1 0 1 from by rw [ej177]; exact nI_iR (by omega) (by omega) (by omega)) (by decide) (by decide)) (iR_w i186 (by decide) (by decide)) (by omega) (by omega)
    · skip
      refine lv_if_ne (tgt := 27) hx hb dX7_quiet_22 (by decide) (fun c188 => absurd rfl c188) (fun _ => ?_)
      refine lv_iconst (v := (-1)) hx hb dX7_quiet_25 (by decide) ?_
      exact ret_i B hr hlk hP hS dX7_quiet_26 (hI)

set_option maxHeartbeats 4000000 in
set_option maxRecDepth 100000 in
theorem d_X7_ofNet (l : Launch) (E : hE) (ρ r : Nat → Nat → Int32) (Bt : Nat) (hBt : Bt ≤ 1000000) (M : Nat → Int32) (L : Nat → Nat) (X : Nat × Nat → Prop) (a1 : Int32) (a2 : Int32) (hI : RI r Bt M L X ρ) : Met l yX7_ofNet (.code yX7_ofNet cX7_ofNet 4 (some .int) :: gw_all) (rmk 3 120) (cPre E ρ [.ref (E.2.1 + 1076), .int a1, .int a2]) (cI E (fun v ρ1 => RI r Bt M L X ρ1)) 0 0 (hA E) := by
  refine ent (own := RX7) (by decide) rfl (Nat.le_of_ble_eq_true rfl) ?_
  intro p e s m below meth c ls B hr hlk hl hP hS
  have hx := B.1.1
  have hb := B.1.2.1
  have hown := B.1.2.2.2.1
  have hts := B.1.2.2.2.2
  have hl : lv_has ls 4 [(0, .ref (E.2.1 + 1076)), (1, .int a1), (2, .int a2)] := hl
  refine lv_aload_n hx hb dX7_ofNet_0 rfl (lv_at hl 0 rfl) ?_
  refine lv_iconst (v := 0) hx hb dX7_ofNet_1 (by decide) ?_
  refine put7 B hP hS (show hk 1076 = 7 by decide +kernel) 0 (by decide) mw_1027 rfl rfl rfl (fs7_0 E 1076 _ _) dX7_ofNet_2 (fun H locs hP hS => ?_)
  obtain ⟨ρ28, e29⟩ : ∃ z, z = up ρ 1076 0 0 := ⟨_, rfl⟩
  rw [← e29] at hP
  have hI : RI r Bt M L X ρ28 := by rw [e29]; exact RI_76 hI (by decide)
  refine lv_aload_n hx hb dX7_ofNet_5 rfl (lv_at hl 0 rfl) ?_
  refine lv_iload_n hx hb dX7_ofNet_6 rfl (lv_at hl 1 rfl) ?_
  refine call_i (cVt (k := 1076) (av := [.int a1]) (rest := []) B hP hS (d_X7_isNet l E ρ28 r Bt hBt M L X a1 hI) lk_RX7_78 (hrecv (ci := 7) B hP (hk_lt (c := 7) (show hk 1076 = 7 by decide +kernel) (by decide)) (hcc7 _ _ (show hk 1076 = 7 by decide +kernel)) rfl) rfl rfl hl.1 (Nat.le_of_ble_eq_true rfl) ⟨Nat.le_of_ble_eq_true rfl, Nat.le_of_ble_eq_true rfl⟩ ⟨Nat.le_of_ble_eq_true rfl, Nat.le_of_ble_eq_true rfl⟩ dX7_ofNet_7) hS (fun r30 ρ31 H locs q32 hP hS => ?_)
  obtain ⟨rfl, hI, q32⟩ := q32
  rcases q32 with rfl | ⟨rfl, j33, hj33, ej33, i34⟩
  · skip
    refine lv_if_ne (tgt := 15) hx hb dX7_ofNet_10 (by decide) (fun c35 => absurd rfl c35) (fun _ => ?_)
    refine lv_iconst (v := (-1)) hx hb dX7_ofNet_13 (by decide) ?_
    exact ret_i B hr hlk hP hS dX7_ofNet_14 (hI)
  · skip
    have n36 : nn a1 = j33 := nn_u ej33 (by omega)
    have i37 : iR (M (nn a1)) 0 5 := by rw [n36]; exact i34
    refine lv_if_ne (tgt := 15) hx hb dX7_ofNet_10 (by decide) (fun _ => ?_) (fun c38 => absurd c38 (iR_ne (show iR 1 (1) (1) from ⟨by decide, by decide⟩) (show iR 0 (0) (0) from ⟨by decide, by decide⟩) (by decide)))
    refine lv_iload_n hx hb dX7_ofNet_15 rfl (lv_at hl 1 rfl) ?_
    refine lv_topi (fun z39 ez39 => ?_)
    obtain rfl : z39 = nI (nn a1) := ez39.trans (nn_eq a1)
    refine call_i (cS (av := [.int (nI (nn a1))]) (rest := []) B hP hS (d_X7_netAt l E ρ28 r Bt hBt M L X (nn a1) (by omega) (by omega) hI) lk_RX7_75 rfl rfl hl.1 (Nat.le_of_ble_eq_true rfl) ⟨Nat.le_of_ble_eq_true rfl, Nat.le_of_ble_eq_true rfl⟩ ⟨Nat.le_of_ble_eq_true rfl, Nat.le_of_ble_eq_true rfl⟩ dX7_ofNet_16) hS (fun r40 ρ41 H locs q42 hP hS => ?_)
    obtain ⟨rfl, hI, q42⟩ := q42
    obtain rfl : r40 = nI (42 + 326 * (nn a1)) := q42.trans (congrArg nI (by omega))
    refine lv_istore_n (lv' := [(3, .int (nI (42 + 326 * (nn a1)))), (0, .ref (E.2.1 + 1076)), (1, .int a1), (2, .int a2)]) hx hb dX7_ofNet_19 rfl hl (by decide) rfl (fun ls hl => ?_)
    refine lv_iload_n hx hb dX7_ofNet_20 rfl (lv_at hl 3 rfl) ?_
    rcases sw_split (x := a2) (lo := 0) (hi := 6) (by decide) with c43 | c43
    · skip
      refine lv_tableOut (tgt := 129) hx hb dX7_ofNet_21 c43 (by decide) ?_
      refine lv_iconst (v := (-1)) hx hb dX7_ofNet_129 (by decide) ?_
      exact ret_i B hr hlk hP hS dX7_ofNet_130 (hI)
    · skip
      rcases sw_step (x := a2) (n := 0) (n' := 1) (by decide) c43 with c43 | c43
      · skip
        refine lv_tableIn (off := 43) (tgt := 64) hx hb dX7_ofNet_21 (by rw [c43]; decide) (by rw [c43]; decide) (by rw [c43]; decide) (by decide) ?_
        refine lv_aload_n hx hb dX7_ofNet_64 rfl (lv_at hl 1 rfl) ?_
        refine get7 B hP (show hk 1076 = 7 by decide +kernel) 3 (by decide) mw_1030 rfl dX7_ofNet_65 ?_
        refine lv_iload_n hx hb dX7_ofNet_68 rfl (lv_at hl 0 rfl) ?_
        refine aldf (n := 695) (j := (42 + 326 * (nn a1))) (v := (M (nn a1))) B hP (show hk 1078 = 8 by decide +kernel) (show hlen 1078 = 695 by decide +kernel) rfl (by omega) (by decide) (g_m (n0 := (nn a1)) hI (by omega) (by omega)) dX7_ofNet_69 ?_
        exact ret_i B hr hlk hP hS dX7_ofNet_70 (hI)
      · skip
        rcases sw_step (x := a2) (n := 1) (n' := 2) (by decide) c43 with c43 | c43
        · skip
          refine lv_tableIn (off := 50) (tgt := 71) hx hb dX7_ofNet_21 (by rw [c43]; decide) (by rw [c43]; decide) (by rw [c43]; decide) (by decide) ?_
          refine lv_aload_n hx hb dX7_ofNet_71 rfl (lv_at hl 1 rfl) ?_
          refine get7 B hP (show hk 1076 = 7 by decide +kernel) 3 (by decide) mw_1030 rfl dX7_ofNet_72 ?_
          refine lv_iload_n hx hb dX7_ofNet_75 rfl (lv_at hl 0 rfl) ?_
          refine lv_iconst (v := 1) hx hb dX7_ofNet_76 (by decide) ?_
          refine lv_iadd hx hb dX7_ofNet_77 ?_
          refine lv_topi (fun z44 ez44 => ?_)
          obtain rfl : z44 = (nI (43 + 326 * (nn a1))) := ez44.trans (by rw [show (nI (42 + 326 * (nn a1))) = nI (42 + 326 * (nn a1)) from rfl, show 1 = nI 1 from rfl, nI_add] <;> exact congrArg nI (by omega))
          refine aldn (n := 695) (j := (43 + 326 * (nn a1))) B hP (show hk 1078 = 8 by decide +kernel) (show hlen 1078 = 695 by decide +kernel) rfl (by omega) (by decide) dX7_ofNet_78 ?_
          exact ret_i B hr hlk hP hS dX7_ofNet_79 (hI)
        · skip
          rcases sw_step (x := a2) (n := 2) (n' := 3) (by decide) c43 with c43 | c43
          · skip
            refine lv_tableIn (off := 59) (tgt := 80) hx hb dX7_ofNet_21 (by rw [c43]; decide) (by rw [c43]; decide) (by rw [c43]; decide) (by decide) ?_
            refine lv_aload_n hx hb dX7_ofNet_80 rfl (lv_at hl 1 rfl) ?_
            refine get7 B hP (show hk 1076 = 7 by decide +kernel) 3 (by decide) mw_1030 rfl dX7_ofNet_81 ?_
            refine lv_iload_n hx hb dX7_ofNet_84 rfl (lv_at hl 0 rfl) ?_
            refine lv_bipush (v := 6) hx hb dX7_ofNet_85 (by decide) ?_
            refine lv_iadd hx hb dX7_ofNet_87 ?_
            refine lv_topi (fun z45 ez45 => ?_)
            obtain rfl : z45 = (nI (48 + 326 * (nn a1))) := ez45.trans (by rw [show (nI (42 + 326 * (nn a1))) = nI (42 + 326 * (nn a1)) from rfl, show 6 = nI 6 from rfl, nI_add] <;> exact congrArg nI (by omega))
            have := RI_Lb (n := (nn a1)) hI (by omega)
            refine aldf (n := 695) (j := (48 + 326 * (nn a1))) (v := (nI (L (nn a1)))) B hP (show hk 1078 = 8 by decide +kernel) (show hlen 1078 = 695 by decide +kernel) rfl (by omega) (by decide) (g_l (n0 := (nn a1)) hI (by omega) (by omega)) dX7_ofNet_88 ?_
            exact ret_i B hr hlk hP hS dX7_ofNet_89 (hI)
          · skip
            rcases sw_step (x := a2) (n := 3) (n' := 4) (by decide) c43 with c43 | c43
            · skip
              refine lv_tableIn (off := 69) (tgt := 90) hx hb dX7_ofNet_21 (by rw [c43]; decide) (by rw [c43]; decide) (by rw [c43]; decide) (by decide) ?_
              refine lv_aload_n hx hb dX7_ofNet_90 rfl (lv_at hl 1 rfl) ?_
              refine get7 B hP (show hk 1076 = 7 by decide +kernel) 3 (by decide) mw_1030 rfl dX7_ofNet_91 ?_
              refine lv_iload_n hx hb dX7_ofNet_94 rfl (lv_at hl 0 rfl) ?_
              refine lv_iconst (v := 5) hx hb dX7_ofNet_95 (by decide) ?_
              refine lv_iadd hx hb dX7_ofNet_96 ?_
              refine lv_topi (fun z46 ez46 => ?_)
              obtain rfl : z46 = (nI (47 + 326 * (nn a1))) := ez46.trans (by rw [show (nI (42 + 326 * (nn a1))) = nI (42 + 326 * (nn a1)) from rfl, show 5 = nI 5 from rfl, nI_add] <;> exact congrArg nI (by omega))
              refine aldn (n := 695) (j := (47 + 326 * (nn a1))) B hP (show hk 1078 = 8 by decide +kernel) (show hlen 1078 = 695 by decide +kernel) rfl (by omega) (by decide) dX7_ofNet_97 ?_
              have i47 : iR (ρ28 1078 (47 + 326 * (nn a1))) (-1) (3) := g_polled3 (n0 := (nn a1)) (j := (47 + 326 * (nn a1))) hI (by omega) i37 (by omega)
              have i48 : iR (ρ28 1078 (47 + 326 * (nn a1))) (-1) ((L (nn a1) : Int) - 1) := g_polled (n0 := (nn a1)) hI (by omega) i37 (by omega)
              exact ret_i B hr hlk hP hS dX7_ofNet_98 (hI)
            · skip
              rcases sw_step (x := a2) (n := 4) (n' := 5) (by decide) c43 with c43 | c43
              · skip
                refine lv_tableIn (off := 78) (tgt := 99) hx hb dX7_ofNet_21 (by rw [c43]; decide) (by rw [c43]; decide) (by rw [c43]; decide) (by decide) ?_
                refine lv_aload_n hx hb dX7_ofNet_99 rfl (lv_at hl 1 rfl) ?_
                refine get7 B hP (show hk 1076 = 7 by decide +kernel) 3 (by decide) mw_1030 rfl dX7_ofNet_100 ?_
                refine lv_iload_n hx hb dX7_ofNet_103 rfl (lv_at hl 0 rfl) ?_
                refine lv_bipush (v := 9) hx hb dX7_ofNet_104 (by decide) ?_
                refine lv_iadd hx hb dX7_ofNet_106 ?_
                refine lv_topi (fun z49 ez49 => ?_)
                obtain rfl : z49 = (nI (51 + 326 * (nn a1))) := ez49.trans (by rw [show (nI (42 + 326 * (nn a1))) = nI (42 + 326 * (nn a1)) from rfl, show 9 = nI 9 from rfl, nI_add] <;> exact congrArg nI (by omega))
                refine aldn (n := 695) (j := (51 + 326 * (nn a1))) B hP (show hk 1078 = 8 by decide +kernel) (show hlen 1078 = 695 by decide +kernel) rfl (by omega) (by decide) dX7_ofNet_107 ?_
                have i50 : iR (ρ28 1078 (51 + 326 * (nn a1))) (0) (4) := g_ncast (n0 := (nn a1)) (j := (51 + 326 * (nn a1))) hI (by omega) (by omega)
                obtain ⟨j51, lj51, uj51, ej51⟩ := iR_nat (a := 0) (b := 4) i50
                refine lv_topi (fun z52 ez52 => ?_)
                obtain rfl : z52 = nI j51 := ez52.trans ej51
                exact ret_i B hr hlk hP hS dX7_ofNet_108 (hI)
              · skip
                rcases sw_step (x := a2) (n := 5) (n' := 6) (by decide) c43 with c43 | c43
                · skip
                  refine lv_tableIn (off := 88) (tgt := 109) hx hb dX7_ofNet_21 (by rw [c43]; decide) (by rw [c43]; decide) (by rw [c43]; decide) (by decide) ?_
                  refine lv_aload_n hx hb dX7_ofNet_109 rfl (lv_at hl 1 rfl) ?_
                  refine get7 B hP (show hk 1076 = 7 by decide +kernel) 3 (by decide) mw_1030 rfl dX7_ofNet_110 ?_
                  refine lv_iload_n hx hb dX7_ofNet_113 rfl (lv_at hl 0 rfl) ?_
                  refine lv_bipush (v := 15) hx hb dX7_ofNet_114 (by decide) ?_
                  refine lv_iadd hx hb dX7_ofNet_116 ?_
                  refine lv_topi (fun z53 ez53 => ?_)
                  obtain rfl : z53 = (nI (57 + 326 * (nn a1))) := ez53.trans (by rw [show (nI (42 + 326 * (nn a1))) = nI (42 + 326 * (nn a1)) from rfl, show 15 = nI 15 from rfl, nI_add] <;> exact congrArg nI (by omega))
                  refine aldn (n := 695) (j := (57 + 326 * (nn a1))) B hP (show hk 1078 = 8 by decide +kernel) (show hlen 1078 = 695 by decide +kernel) rfl (by omega) (by decide) dX7_ofNet_117 ?_
                  exact ret_i B hr hlk hP hS dX7_ofNet_118 (hI)
                · skip
                  have c43 := sw_last (n := 6) c43
                  refine lv_tableIn (off := 98) (tgt := 119) hx hb dX7_ofNet_21 (by rw [c43]; decide) (by rw [c43]; decide) (by rw [c43]; decide) (by decide) ?_
                  refine lv_aload_n hx hb dX7_ofNet_119 rfl (lv_at hl 1 rfl) ?_
                  refine get7 B hP (show hk 1076 = 7 by decide +kernel) 3 (by decide) mw_1030 rfl dX7_ofNet_120 ?_
                  refine lv_iload_n hx hb dX7_ofNet_123 rfl (lv_at hl 0 rfl) ?_
                  refine lv_bipush (v := 14) hx hb dX7_ofNet_124 (by decide) ?_
                  refine lv_iadd hx hb dX7_ofNet_126 ?_
                  refine lv_topi (fun z54 ez54 => ?_)
                  obtain rfl : z54 = (nI (56 + 326 * (nn a1))) := ez54.trans (by rw [show (nI (42 + 326 * (nn a1))) = nI (42 + 326 * (nn a1)) from rfl, show 14 = nI 14 from rfl, nI_add] <;> exact congrArg nI (by omega))
                  refine aldn (n := 695) (j := (56 + 326 * (nn a1))) B hP (show hk 1078 = 8 by decide +kernel) (show hlen 1078 = 695 by decide +kernel) rfl (by omega) (by decide) dX7_ofNet_127 ?_
                  exact ret_i B hr hlk hP hS dX7_ofNet_128 (hI)

theorem lk_RX7_283 : LkV RX7 283 RX7 yX7_heardOfAll cX7_heardOfAll 4 (some .int) 0 := ⟨⟨mw_1475, mw_1477, mw_50, mw_59, mw_1478⟩, by decide +kernel⟩
set_option maxHeartbeats 4000000 in
set_option maxRecDepth 100000 in
theorem d_X7_count (l : Launch) (E : hE) (ρ r : Nat → Nat → Int32) (Bt : Nat) (hBt : Bt ≤ 1000000) (M : Nat → Int32) (L : Nat → Nat) (X : Nat × Nat → Prop) (a1 : Int32) (hI : RI r Bt M L X ρ) : Met l yX7_count (.code yX7_count cX7_count 2 (some .int) :: gw_all) (rmk 4 160) (cPre E ρ [.ref (E.2.1 + 1076), .int a1]) (cI E (fun v ρ1 => RI r Bt M L X ρ1)) 0 0 (hA E) := by
  refine ent (own := RX7) (by decide) rfl (Nat.le_of_ble_eq_true rfl) ?_
  intro p e s m below meth c ls B hr hlk hl hP hS
  have hx := B.1.1
  have hb := B.1.2.1
  have hown := B.1.2.2.2.1
  have hts := B.1.2.2.2.2
  have hl : lv_has ls 2 [(0, .ref (E.2.1 + 1076)), (1, .int a1)] := hl
  have b186_0 : ∀ (ls : Array Slot) (ρ : Nat → Nat → Int32) (H : Heap) (locs : List Loc) , lv_has ls 2 [(0, .ref (E.2.1 + 1076)), (1, .int a1)] → WP E ρ H → va_S (hA E) s.heap H locs → RI r Bt M L X ρ → W p l e (rmk 4 160) s m ([.ref (E.2.1 + 1076), .int a1] : List Value).toArray below meth c H locs 0 0 (MQ below (cI E (fun v ρ1 => RI r Bt M L X ρ1)) ([.ref (E.2.1 + 1076), .int a1] : List Value).toArray s 0 0 (hA E)) (F0 m 186 ls []) := by
    intro ls ρ H locs  hl hP hS hI
    refine lv_iload_n hx hb dX7_count_186 rfl (lv_at hl 1 rfl) ?_
    refine lv_i2l hx hb dX7_count_187 rfl ?_
    refine lv_ldc2 (v := 10) hx hb hown (hts _ mw_1479) dX7_count_188 ?_
    refine lv_ldc2 (v := 17) hx hb hown (hts _ mw_1480) dX7_count_191 ?_
    refine call_i (cS (av := [.long a1.toInt64, .long 10, .long 17]) (rest := []) B hP hS (c_in l E ρ a1.toInt64 10 17 10 17 (by decide) (by decide)) lk_RX7_71 rfl rfl hl.1 (Nat.le_of_ble_eq_true rfl) ⟨Nat.le_of_ble_eq_true rfl, Nat.le_of_ble_eq_true rfl⟩ ⟨Nat.le_of_ble_eq_true rfl, Nat.le_of_ble_eq_true rfl⟩ dX7_count_194) hS (fun r22 ρ23 H locs q24 hP hS => ?_)
    obtain ⟨rfl, q24⟩ := q24
    rcases q24 with ⟨rfl, q24⟩ | ⟨rfl, q24⟩
    · skip
      have i25 : iR a1 10 17 := (lR_i _ _ _).mp q24
      refine lv_if_eq (tgt := 215) hx hb dX7_count_197 (by decide) (fun c26 => absurd c26 (iR_ne (show iR 1 (1) (1) from ⟨by decide, by decide⟩) (show iR 0 (0) (0) from ⟨by decide, by decide⟩) (by decide))) (fun _ => ?_)
      refine lv_aload_n hx hb dX7_count_200 rfl (lv_at hl 0 rfl) ?_
      refine get7 B hP (show hk 1076 = 7 by decide +kernel) 3 (by decide) mw_1030 rfl dX7_count_201 ?_
      refine lv_bipush (v := 11) hx hb dX7_count_204 (by decide) ?_
      refine lv_iload_n hx hb dX7_count_206 rfl (lv_at hl 1 rfl) ?_
      have := nn_r (x := a1) (a := 10) (b := 17) i25 (by decide)
      refine lv_topi (fun z27 ez27 => ?_)
      obtain rfl : z27 = nI (nn a1) := ez27.trans (nn_eq a1)
      refine lv_iadd hx hb dX7_count_207 ?_
      refine lv_topi (fun z28 ez28 => ?_)
      obtain rfl : z28 = (nI (11 + (nn a1))) := ez28.trans (by rw [show 11 = nI 11 from rfl, show (nI (nn a1)) = nI (nn a1) from rfl, nI_add] <;> exact congrArg nI (by omega))
      refine lv_bipush (v := 10) hx hb dX7_count_208 (by decide) ?_
      refine lv_isub hx hb dX7_count_210 ?_
      refine lv_topi (fun z29 ez29 => ?_)
      obtain rfl : z29 = (nI (1 + (nn a1))) := ez29.trans (nI_subE (a := (11 + (nn a1))) (b := 10) (q := (1 + (nn a1))) (by omega))
      refine aldn (n := 695) (j := (1 + (nn a1))) B hP (show hk 1078 = 8 by decide +kernel) (show hlen 1078 = 695 by decide +kernel) rfl (by omega) (by decide) dX7_count_211 ?_
      refine lv_goto (tgt := 216) hx hb dX7_count_212 (by decide) ?_
      exact ret_i B hr hlk hP hS dX7_count_216 (hI)
    · skip
      refine lv_if_eq (tgt := 215) hx hb dX7_count_197 (by decide) (fun _ => ?_) (fun c30 => absurd rfl c30)
      refine lv_iconst (v := (-1)) hx hb dX7_count_215 (by decide) ?_
      exact ret_i B hr hlk hP hS dX7_count_216 (hI)
  refine lv_aload_n hx hb dX7_count_0 rfl (lv_at hl 0 rfl) ?_
  refine lv_iconst (v := 0) hx hb dX7_count_1 (by decide) ?_
  refine put7 B hP hS (show hk 1076 = 7 by decide +kernel) 0 (by decide) mw_1027 rfl rfl rfl (fs7_0 E 1076 _ _) dX7_count_2 (fun H locs hP hS => ?_)
  obtain ⟨ρ31, e32⟩ : ∃ z, z = up ρ 1076 0 0 := ⟨_, rfl⟩
  rw [← e32] at hP
  have hI : RI r Bt M L X ρ31 := by rw [e32]; exact RI_76 hI (by decide)
  refine lv_iload_n hx hb dX7_count_5 rfl (lv_at hl 1 rfl) ?_
  rcases sw_split (x := a1) (lo := 0) (hi := 19) (by decide) with c33 | c33
  · skip
    refine lv_tableOut (tgt := 186) hx hb dX7_count_6 c33 (by decide) ?_
    exact b186_0 ls ρ31 _ _  (lv_sub hl [0, 1] rfl) hP hS hI 
  · skip
    rcases sw_step (x := a1) (n := 0) (n' := 1) (by decide) c33 with c33 | c33
    · skip
      refine lv_tableIn (off := 94) (tgt := 100) hx hb dX7_count_6 (by rw [c33]; decide) (by rw [c33]; decide) (by rw [c33]; decide) (by decide) ?_
      refine lv_aload_n hx hb dX7_count_100 rfl (lv_at hl 0 rfl) ?_
      refine get7 B hP (show hk 1076 = 7 by decide +kernel) 3 (by decide) mw_1030 rfl dX7_count_101 ?_
      refine lv_bipush (v := 7) hx hb dX7_count_104 (by decide) ?_
      refine aldn (n := 695) (j := 7) B hP (show hk 1078 = 8 by decide +kernel) (show hlen 1078 = 695 by decide +kernel) rfl (by omega) (by decide) dX7_count_106 ?_
      have i34 : iR (ρ31 1078 7) (0) (1000000) := (iR_w (g_time hI) (by omega) (by omega))
      obtain ⟨j35, lj35, uj35, ej35⟩ := iR_nat (a := 0) (b := 1000000) i34
      refine lv_topi (fun z36 ez36 => ?_)
      obtain rfl : z36 = nI j35 := ez36.trans ej35
      exact ret_i B hr hlk hP hS dX7_count_107 (hI)
    · skip
      rcases sw_step (x := a1) (n := 1) (n' := 2) (by decide) c33 with c33 | c33
      · skip
        refine lv_tableIn (off := 102) (tgt := 108) hx hb dX7_count_6 (by rw [c33]; decide) (by rw [c33]; decide) (by rw [c33]; decide) (by decide) ?_
        refine lv_aload_n hx hb dX7_count_108 rfl (lv_at hl 0 rfl) ?_
        refine get7 B hP (show hk 1076 = 7 by decide +kernel) 3 (by decide) mw_1030 rfl dX7_count_109 ?_
        refine lv_iconst (v := 0) hx hb dX7_count_112 (by decide) ?_
        refine aldn (n := 695) (j := 0) B hP (show hk 1078 = 8 by decide +kernel) (show hlen 1078 = 695 by decide +kernel) rfl (by omega) (by decide) dX7_count_113 ?_
        have i37 : iR (ρ31 1078 0) (0) (6) := g_nradio hI
        obtain ⟨j38, lj38, uj38, ej38⟩ := iR_nat (a := 0) (b := 6) i37
        refine lv_topi (fun z39 ez39 => ?_)
        obtain rfl : z39 = nI j38 := ez39.trans ej38
        exact ret_i B hr hlk hP hS dX7_count_114 (hI)
      · skip
        rcases sw_step (x := a1) (n := 2) (n' := 3) (by decide) c33 with c33 | c33
        · skip
          refine lv_tableIn (off := 109) (tgt := 115) hx hb dX7_count_6 (by rw [c33]; decide) (by rw [c33]; decide) (by rw [c33]; decide) (by decide) ?_
          refine lv_aload_n hx hb dX7_count_115 rfl (lv_at hl 0 rfl) ?_
          refine get7 B hP (show hk 1076 = 7 by decide +kernel) 3 (by decide) mw_1030 rfl dX7_count_116 ?_
          refine lv_bipush (v := 8) hx hb dX7_count_119 (by decide) ?_
          refine aldn (n := 695) (j := 8) B hP (show hk 1078 = 8 by decide +kernel) (show hlen 1078 = 695 by decide +kernel) rfl (by omega) (by decide) dX7_count_121 ?_
          exact ret_i B hr hlk hP hS dX7_count_122 (hI)
        · skip
          rcases sw_step (x := a1) (n := 3) (n' := 4) (by decide) c33 with c33 | c33
          · skip
            refine lv_tableIn (off := 117) (tgt := 123) hx hb dX7_count_6 (by rw [c33]; decide) (by rw [c33]; decide) (by rw [c33]; decide) (by decide) ?_
            refine lv_aload_n hx hb dX7_count_123 rfl (lv_at hl 0 rfl) ?_
            refine get7 B hP (show hk 1076 = 7 by decide +kernel) 3 (by decide) mw_1030 rfl dX7_count_124 ?_
            refine lv_bipush (v := 9) hx hb dX7_count_127 (by decide) ?_
            refine aldn (n := 695) (j := 9) B hP (show hk 1078 = 8 by decide +kernel) (show hlen 1078 = 695 by decide +kernel) rfl (by omega) (by decide) dX7_count_129 ?_
            exact ret_i B hr hlk hP hS dX7_count_130 (hI)
          · skip
            rcases sw_step (x := a1) (n := 4) (n' := 5) (by decide) c33 with c33 | c33
            · skip
              refine lv_tableIn (off := 125) (tgt := 131) hx hb dX7_count_6 (by rw [c33]; decide) (by rw [c33]; decide) (by rw [c33]; decide) (by decide) ?_
              refine lv_aload_n hx hb dX7_count_131 rfl (lv_at hl 0 rfl) ?_
              refine call_i (cVt (k := 1076) (av := []) (rest := []) B hP hS (d_X7_heardOfAll l E ρ31 r Bt hBt M L X hI) lk_RX7_283 (hrecv (ci := 7) B hP (hk_lt (c := 7) (show hk 1076 = 7 by decide +kernel) (by decide)) (hcc7 _ _ (show hk 1076 = 7 by decide +kernel)) rfl) rfl rfl hl.1 (Nat.le_of_ble_eq_true rfl) ⟨Nat.le_of_ble_eq_true rfl, Nat.le_of_ble_eq_true rfl⟩ ⟨Nat.le_of_ble_eq_true rfl, Nat.le_of_ble_eq_true rfl⟩ dX7_count_132) hS (fun r40 ρ41 H locs q42 hP hS => ?_)
              obtain ⟨rfl, hI⟩ := q42
              exact ret_i B hr hlk hP hS dX7_count_135 (hI)
            · skip
              rcases sw_step (x := a1) (n := 5) (n' := 6) (by decide) c33 with c33 | c33
              · skip
                refine lv_tableIn (off := 130) (tgt := 136) hx hb dX7_count_6 (by rw [c33]; decide) (by rw [c33]; decide) (by rw [c33]; decide) (by decide) ?_
                refine lv_aload_n hx hb dX7_count_136 rfl (lv_at hl 0 rfl) ?_
                refine get7 B hP (show hk 1076 = 7 by decide +kernel) 2 (by decide) mw_1029 rfl dX7_count_137 ?_
                refine lv_iconst (v := 1) hx hb dX7_count_140 (by decide) ?_
                refine aldn (n := 6) (j := 1) B hP (show hk 1077 = 8 by decide +kernel) (show hlen 1077 = 6 by decide +kernel) rfl (by omega) (by decide) dX7_count_141 ?_
                exact ret_i B hr hlk hP hS dX7_count_142 (hI)
              · skip
                rcases sw_step (x := a1) (n := 6) (n' := 7) (by decide) c33 with c33 | c33
                · skip
                  refine lv_tableIn (off := 137) (tgt := 143) hx hb dX7_count_6 (by rw [c33]; decide) (by rw [c33]; decide) (by rw [c33]; decide) (by decide) ?_
                  refine lv_aload_n hx hb dX7_count_143 rfl (lv_at hl 0 rfl) ?_
                  refine get7 B hP (show hk 1076 = 7 by decide +kernel) 2 (by decide) mw_1029 rfl dX7_count_144 ?_
                  refine lv_iconst (v := 2) hx hb dX7_count_147 (by decide) ?_
                  refine aldn (n := 6) (j := 2) B hP (show hk 1077 = 8 by decide +kernel) (show hlen 1077 = 6 by decide +kernel) rfl (by omega) (by decide) dX7_count_148 ?_
                  exact ret_i B hr hlk hP hS dX7_count_149 (hI)
                · skip
                  rcases sw_step (x := a1) (n := 7) (n' := 8) (by decide) c33 with c33 | c33
                  · skip
                    refine lv_tableIn (off := 144) (tgt := 150) hx hb dX7_count_6 (by rw [c33]; decide) (by rw [c33]; decide) (by rw [c33]; decide) (by decide) ?_
                    refine lv_aload_n hx hb dX7_count_150 rfl (lv_at hl 0 rfl) ?_
                    refine get7 B hP (show hk 1076 = 7 by decide +kernel) 2 (by decide) mw_1029 rfl dX7_count_151 ?_
                    refine lv_iconst (v := 4) hx hb dX7_count_154 (by decide) ?_
                    refine aldn (n := 6) (j := 4) B hP (show hk 1077 = 8 by decide +kernel) (show hlen 1077 = 6 by decide +kernel) rfl (by omega) (by decide) dX7_count_155 ?_
                    exact ret_i B hr hlk hP hS dX7_count_156 (hI)
                  · skip
                    rcases sw_step (x := a1) (n := 8) (n' := 9) (by decide) c33 with c33 | c33
                    · skip
                      refine lv_tableIn (off := 151) (tgt := 157) hx hb dX7_count_6 (by rw [c33]; decide) (by rw [c33]; decide) (by rw [c33]; decide) (by decide) ?_
                      refine lv_aload_n hx hb dX7_count_157 rfl (lv_at hl 0 rfl) ?_
                      refine get7 B hP (show hk 1076 = 7 by decide +kernel) 2 (by decide) mw_1029 rfl dX7_count_158 ?_
                      refine lv_iconst (v := 5) hx hb dX7_count_161 (by decide) ?_
                      refine aldn (n := 6) (j := 5) B hP (show hk 1077 = 8 by decide +kernel) (show hlen 1077 = 6 by decide +kernel) rfl (by omega) (by decide) dX7_count_162 ?_
                      exact ret_i B hr hlk hP hS dX7_count_163 (hI)
                    · skip
                      rcases sw_step (x := a1) (n := 9) (n' := 10) (by decide) c33 with c33 | c33
                      · skip
                        refine lv_tableIn (off := 158) (tgt := 164) hx hb dX7_count_6 (by rw [c33]; decide) (by rw [c33]; decide) (by rw [c33]; decide) (by decide) ?_
                        refine lv_aload_n hx hb dX7_count_164 rfl (lv_at hl 0 rfl) ?_
                        refine get7 B hP (show hk 1076 = 7 by decide +kernel) 6 (by decide) mw_1033 rfl dX7_count_165 ?_
                        exact ret_i B hr hlk hP hS dX7_count_168 (hI)
                      · skip
                        rcases sw_step (x := a1) (n := 10) (n' := 11) (by decide) c33 with c33 | c33
                        · skip
                          refine lv_tableIn (off := 180) (tgt := 186) hx hb dX7_count_6 (by rw [c33]; decide) (by rw [c33]; decide) (by rw [c33]; decide) (by decide) ?_
                          exact b186_0 ls ρ31 _ _  (lv_sub hl [0, 1] rfl) hP hS hI 
                        · skip
                          rcases sw_step (x := a1) (n := 11) (n' := 12) (by decide) c33 with c33 | c33
                          · skip
                            refine lv_tableIn (off := 180) (tgt := 186) hx hb dX7_count_6 (by rw [c33]; decide) (by rw [c33]; decide) (by rw [c33]; decide) (by decide) ?_
                            exact b186_0 ls ρ31 _ _  (lv_sub hl [0, 1] rfl) hP hS hI 
                          · skip
                            rcases sw_step (x := a1) (n := 12) (n' := 13) (by decide) c33 with c33 | c33
                            · skip
                              refine lv_tableIn (off := 180) (tgt := 186) hx hb dX7_count_6 (by rw [c33]; decide) (by rw [c33]; decide) (by rw [c33]; decide) (by decide) ?_
                              exact b186_0 ls ρ31 _ _  (lv_sub hl [0, 1] rfl) hP hS hI 
                            · skip
                              rcases sw_step (x := a1) (n := 13) (n' := 14) (by decide) c33 with c33 | c33
                              · skip
                                refine lv_tableIn (off := 180) (tgt := 186) hx hb dX7_count_6 (by rw [c33]; decide) (by rw [c33]; decide) (by rw [c33]; decide) (by decide) ?_
                                exact b186_0 ls ρ31 _ _  (lv_sub hl [0, 1] rfl) hP hS hI 
                              · skip
                                rcases sw_step (x := a1) (n := 14) (n' := 15) (by decide) c33 with c33 | c33
                                · skip
                                  refine lv_tableIn (off := 180) (tgt := 186) hx hb dX7_count_6 (by rw [c33]; decide) (by rw [c33]; decide) (by rw [c33]; decide) (by decide) ?_
                                  exact b186_0 ls ρ31 _ _  (lv_sub hl [0, 1] rfl) hP hS hI 
                                · skip
                                  rcases sw_step (x := a1) (n := 15) (n' := 16) (by decide) c33 with c33 | c33
                                  · skip
                                    refine lv_tableIn (off := 180) (tgt := 186) hx hb dX7_count_6 (by rw [c33]; decide) (by rw [c33]; decide) (by rw [c33]; decide) (by decide) ?_
                                    exact b186_0 ls ρ31 _ _  (lv_sub hl [0, 1] rfl) hP hS hI 
                                  · skip
                                    rcases sw_step (x := a1) (n := 16) (n' := 17) (by decide) c33 with c33 | c33
                                    · skip
                                      refine lv_tableIn (off := 180) (tgt := 186) hx hb dX7_count_6 (by rw [c33]; decide) (by rw [c33]; decide) (by rw [c33]; decide) (by decide) ?_
                                      exact b186_0 ls ρ31 _ _  (lv_sub hl [0, 1] rfl) hP hS hI 
                                    · skip
                                      rcases sw_step (x := a1) (n := 17) (n' := 18) (by decide) c33 with c33 | c33
                                      · skip
                                        refine lv_tableIn (off := 180) (tgt := 186) hx hb dX7_count_6 (by rw [c33]; decide) (by rw [c33]; decide) (by rw [c33]; decide) (by decide) ?_
                                        exact b186_0 ls ρ31 _ _  (lv_sub hl [0, 1] rfl) hP hS hI 
                                      · skip
                                        rcases sw_step (x := a1) (n := 18) (n' := 19) (by decide) c33 with c33 | c33
                                        · skip
                                          refine lv_tableIn (off := 163) (tgt := 169) hx hb dX7_count_6 (by rw [c33]; decide) (by rw [c33]; decide) (by rw [c33]; decide) (by decide) ?_
                                          refine lv_aload_n hx hb dX7_count_169 rfl (lv_at hl 0 rfl) ?_
                                          refine get7 B hP (show hk 1076 = 7 by decide +kernel) 3 (by decide) mw_1030 rfl dX7_count_170 ?_
                                          refine lv_bipush (v := 10) hx hb dX7_count_173 (by decide) ?_
                                          refine aldn (n := 695) (j := 10) B hP (show hk 1078 = 8 by decide +kernel) (show hlen 1078 = 695 by decide +kernel) rfl (by omega) (by decide) dX7_count_175 ?_
                                          exact ret_i B hr hlk hP hS dX7_count_176 (hI)
                                        · skip
                                          have c33 := sw_last (n := 19) c33
                                          refine lv_tableIn (off := 171) (tgt := 177) hx hb dX7_count_6 (by rw [c33]; decide) (by rw [c33]; decide) (by rw [c33]; decide) (by decide) ?_
                                          refine lv_aload_n hx hb dX7_count_177 rfl (lv_at hl 0 rfl) ?_
                                          refine get7 B hP (show hk 1076 = 7 by decide +kernel) 3 (by decide) mw_1030 rfl dX7_count_178 ?_
                                          refine lv_sipush (v := 694) hx hb dX7_count_181 (by decide) ?_
                                          refine aldn (n := 695) (j := 694) B hP (show hk 1078 = 8 by decide +kernel) (show hlen 1078 = 695 by decide +kernel) rfl (by omega) (by decide) dX7_count_184 ?_
                                          exact ret_i B hr hlk hP hS dX7_count_185 (hI)

set_option maxHeartbeats 4000000 in
set_option maxRecDepth 100000 in
theorem d_X7_status (l : Launch) (E : hE) (ρ r : Nat → Nat → Int32) (Bt : Nat) (hBt : Bt ≤ 1000000) (M : Nat → Int32) (L : Nat → Nat) (X : Nat × Nat → Prop) (hI : RI r Bt M L X ρ) : Met l yX7_status (.code yX7_status cX7_status 1 (some .int) :: gw_all) (rmk 1 40) (cPre E ρ [.ref (E.2.1 + 1076)]) (cI E (fun v ρ1 => RI r Bt M L X ρ1)) 0 0 (hA E) := by
  refine ent (own := RX7) (by decide) rfl (Nat.le_of_ble_eq_true rfl) ?_
  intro p e s m below meth c ls B hr hlk hl hP hS
  have hx := B.1.1
  have hb := B.1.2.1
  have hown := B.1.2.2.2.1
  have hts := B.1.2.2.2.2
  have hl : lv_has ls 1 [(0, .ref (E.2.1 + 1076))] := hl
  refine lv_aload_n hx hb dX7_status_0 rfl (lv_at hl 0 rfl) ?_
  refine lv_iconst (v := 0) hx hb dX7_status_1 (by decide) ?_
  refine put7 B hP hS (show hk 1076 = 7 by decide +kernel) 0 (by decide) mw_1027 rfl rfl rfl (fs7_0 E 1076 _ _) dX7_status_2 (fun H locs hP hS => ?_)
  obtain ⟨ρ3, e4⟩ : ∃ z, z = up ρ 1076 0 0 := ⟨_, rfl⟩
  rw [← e4] at hP
  have hI : RI r Bt M L X ρ3 := by rw [e4]; exact RI_76 hI (by decide)
  refine lv_aload_n hx hb dX7_status_5 rfl (lv_at hl 0 rfl) ?_
  refine get7 B hP (show hk 1076 = 7 by decide +kernel) 1 (by decide) mw_1028 rfl dX7_status_6 ?_
  exact ret_i B hr hlk hP hS dX7_status_9 (hI)
