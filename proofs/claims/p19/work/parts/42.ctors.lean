theorem dX0_init_0 : decode cX0_init 0 = .ok (.aload_n 0, 1) := by decide +kernel
theorem dX0_init_1 : decode cX0_init 1 = .ok (.invokespecial 1, 3) := by decide +kernel
theorem dX0_init_4 : decode cX0_init 4 = .ok (.return_, 1) := by decide +kernel
theorem dX3_init_0 : decode cX3_init 0 = .ok (.aload_n 0, 1) := by decide +kernel
theorem dX3_init_1 : decode cX3_init 1 = .ok (.invokespecial 3, 3) := by decide +kernel
theorem dX3_init_4 : decode cX3_init 4 = .ok (.aload_n 0, 1) := by decide +kernel
theorem dX3_init_5 : decode cX3_init 5 = .ok (.ldc 9, 2) := by decide +kernel
theorem dX3_init_7 : decode cX3_init 7 = .ok (.putfield 10, 3) := by decide +kernel
theorem dX3_init_10 : decode cX3_init 10 = .ok (.aload_n 0, 1) := by decide +kernel
theorem dX3_init_11 : decode cX3_init 11 = .ok (.iconst 0, 1) := by decide +kernel
theorem dX3_init_12 : decode cX3_init 12 = .ok (.putfield 16, 3) := by decide +kernel
theorem dX3_init_15 : decode cX3_init 15 = .ok (.aload_n 0, 1) := by decide +kernel
theorem dX3_init_16 : decode cX3_init 16 = .ok (.iconst (-1), 1) := by decide +kernel
theorem dX3_init_17 : decode cX3_init 17 = .ok (.putfield 19, 3) := by decide +kernel
theorem dX3_init_20 : decode cX3_init 20 = .ok (.return_, 1) := by decide +kernel
theorem dX4_init_0 : decode cX4_init 0 = .ok (.aload_n 0, 1) := by decide +kernel
theorem dX4_init_1 : decode cX4_init 1 = .ok (.invokespecial 3, 3) := by decide +kernel
theorem dX4_init_4 : decode cX4_init 4 = .ok (.aload_n 0, 1) := by decide +kernel
theorem dX4_init_5 : decode cX4_init 5 = .ok (.bipush 8, 2) := by decide +kernel
theorem dX4_init_7 : decode cX4_init 7 = .ok (.newarray .int, 2) := by decide +kernel
theorem dX4_init_9 : decode cX4_init 9 = .ok (.putfield 9, 3) := by decide +kernel
theorem dX4_init_12 : decode cX4_init 12 = .ok (.aload_n 0, 1) := by decide +kernel
theorem dX4_init_13 : decode cX4_init 13 = .ok (.bipush 8, 2) := by decide +kernel
theorem dX4_init_15 : decode cX4_init 15 = .ok (.newarray .int, 2) := by decide +kernel
theorem dX4_init_17 : decode cX4_init 17 = .ok (.putfield 15, 3) := by decide +kernel
theorem dX4_init_20 : decode cX4_init 20 = .ok (.return_, 1) := by decide +kernel
theorem dX1_init_0 : decode cX1_init 0 = .ok (.aload_n 0, 1) := by decide +kernel
theorem dX1_init_1 : decode cX1_init 1 = .ok (.invokespecial 1, 3) := by decide +kernel
theorem dX1_init_4 : decode cX1_init 4 = .ok (.aload_n 0, 1) := by decide +kernel
theorem dX1_init_5 : decode cX1_init 5 = .ok (.new 7, 3) := by decide +kernel
theorem dX1_init_8 : decode cX1_init 8 = .ok (.dup, 1) := by decide +kernel
theorem dX1_init_9 : decode cX1_init 9 = .ok (.invokespecial 9, 3) := by decide +kernel
theorem dX1_init_12 : decode cX1_init 12 = .ok (.putfield 10, 3) := by decide +kernel
theorem dX1_init_15 : decode cX1_init 15 = .ok (.aload_n 0, 1) := by decide +kernel
theorem dX1_init_16 : decode cX1_init 16 = .ok (.new 16, 3) := by decide +kernel
theorem dX1_init_19 : decode cX1_init 19 = .ok (.dup, 1) := by decide +kernel
theorem dX1_init_20 : decode cX1_init 20 = .ok (.invokespecial 18, 3) := by decide +kernel
theorem dX1_init_23 : decode cX1_init 23 = .ok (.putfield 19, 3) := by decide +kernel
theorem dX1_init_26 : decode cX1_init 26 = .ok (.aload_n 0, 1) := by decide +kernel
theorem dX1_init_27 : decode cX1_init 27 = .ok (.new 16, 3) := by decide +kernel
theorem dX1_init_30 : decode cX1_init 30 = .ok (.dup, 1) := by decide +kernel
theorem dX1_init_31 : decode cX1_init 31 = .ok (.invokespecial 18, 3) := by decide +kernel
theorem dX1_init_34 : decode cX1_init 34 = .ok (.putfield 23, 3) := by decide +kernel
theorem dX1_init_37 : decode cX1_init 37 = .ok (.aload_n 0, 1) := by decide +kernel
theorem dX1_init_38 : decode cX1_init 38 = .ok (.new 26, 3) := by decide +kernel
theorem dX1_init_41 : decode cX1_init 41 = .ok (.dup, 1) := by decide +kernel
theorem dX1_init_42 : decode cX1_init 42 = .ok (.invokespecial 28, 3) := by decide +kernel
theorem dX1_init_45 : decode cX1_init 45 = .ok (.putfield 29, 3) := by decide +kernel
theorem dX1_init_48 : decode cX1_init 48 = .ok (.return_, 1) := by decide +kernel
theorem dX2_init_0 : decode cX2_init 0 = .ok (.aload_n 0, 1) := by decide +kernel
theorem dX2_init_1 : decode cX2_init 1 = .ok (.invokespecial 3, 3) := by decide +kernel
theorem dX2_init_4 : decode cX2_init 4 = .ok (.aload_n 0, 1) := by decide +kernel
theorem dX2_init_5 : decode cX2_init 5 = .ok (.new 9, 3) := by decide +kernel
theorem dX2_init_8 : decode cX2_init 8 = .ok (.dup, 1) := by decide +kernel
theorem dX2_init_9 : decode cX2_init 9 = .ok (.invokespecial 11, 3) := by decide +kernel
theorem dX2_init_12 : decode cX2_init 12 = .ok (.putfield 12, 3) := by decide +kernel
theorem dX2_init_15 : decode cX2_init 15 = .ok (.aload_n 0, 1) := by decide +kernel
theorem dX2_init_16 : decode cX2_init 16 = .ok (.iconst 4, 1) := by decide +kernel
theorem dX2_init_17 : decode cX2_init 17 = .ok (.newarray .int, 2) := by decide +kernel
theorem dX2_init_19 : decode cX2_init 19 = .ok (.putfield 18, 3) := by decide +kernel
theorem dX2_init_22 : decode cX2_init 22 = .ok (.aload_n 0, 1) := by decide +kernel
theorem dX2_init_23 : decode cX2_init 23 = .ok (.bipush 23, 2) := by decide +kernel
theorem dX2_init_25 : decode cX2_init 25 = .ok (.newarray .int, 2) := by decide +kernel
theorem dX2_init_27 : decode cX2_init 27 = .ok (.putfield 22, 3) := by decide +kernel
theorem dX2_init_30 : decode cX2_init 30 = .ok (.aload_n 0, 1) := by decide +kernel
theorem dX2_init_31 : decode cX2_init 31 = .ok (.bipush 23, 2) := by decide +kernel
theorem dX2_init_33 : decode cX2_init 33 = .ok (.newarray .int, 2) := by decide +kernel
theorem dX2_init_35 : decode cX2_init 35 = .ok (.putfield 25, 3) := by decide +kernel
theorem dX2_init_38 : decode cX2_init 38 = .ok (.aload_n 0, 1) := by decide +kernel
theorem dX2_init_39 : decode cX2_init 39 = .ok (.iconst 4, 1) := by decide +kernel
theorem dX2_init_40 : decode cX2_init 40 = .ok (.anewarray 28, 3) := by decide +kernel
theorem dX2_init_43 : decode cX2_init 43 = .ok (.putfield 30, 3) := by decide +kernel
theorem dX2_init_46 : decode cX2_init 46 = .ok (.aload_n 0, 1) := by decide +kernel
theorem dX2_init_47 : decode cX2_init 47 = .ok (.iconst (-1), 1) := by decide +kernel
theorem dX2_init_48 : decode cX2_init 48 = .ok (.putfield 34, 3) := by decide +kernel
theorem dX2_init_51 : decode cX2_init 51 = .ok (.aload_n 0, 1) := by decide +kernel
theorem dX2_init_52 : decode cX2_init 52 = .ok (.iconst 0, 1) := by decide +kernel
theorem dX2_init_53 : decode cX2_init 53 = .ok (.putfield 38, 3) := by decide +kernel
theorem dX2_init_56 : decode cX2_init 56 = .ok (.aload_n 0, 1) := by decide +kernel
theorem dX2_init_57 : decode cX2_init 57 = .ok (.ldc 41, 2) := by decide +kernel
theorem dX2_init_59 : decode cX2_init 59 = .ok (.putfield 42, 3) := by decide +kernel
theorem dX2_init_62 : decode cX2_init 62 = .ok (.aload_n 0, 1) := by decide +kernel
theorem dX2_init_63 : decode cX2_init 63 = .ok (.iconst 0, 1) := by decide +kernel
theorem dX2_init_64 : decode cX2_init 64 = .ok (.putfield 45, 3) := by decide +kernel
theorem dX2_init_67 : decode cX2_init 67 = .ok (.aload_n 0, 1) := by decide +kernel
theorem dX2_init_68 : decode cX2_init 68 = .ok (.iconst (-1), 1) := by decide +kernel
theorem dX2_init_69 : decode cX2_init 69 = .ok (.putfield 48, 3) := by decide +kernel
theorem dX2_init_72 : decode cX2_init 72 = .ok (.aload_n 0, 1) := by decide +kernel
theorem dX2_init_73 : decode cX2_init 73 = .ok (.iconst 0, 1) := by decide +kernel
theorem dX2_init_74 : decode cX2_init 74 = .ok (.putfield 51, 3) := by decide +kernel
theorem dX2_init_77 : decode cX2_init 77 = .ok (.aload_n 0, 1) := by decide +kernel
theorem dX2_init_78 : decode cX2_init 78 = .ok (.iconst 0, 1) := by decide +kernel
theorem dX2_init_79 : decode cX2_init 79 = .ok (.putfield 54, 3) := by decide +kernel
theorem dX2_init_82 : decode cX2_init 82 = .ok (.aload_n 0, 1) := by decide +kernel
theorem dX2_init_83 : decode cX2_init 83 = .ok (.iconst 0, 1) := by decide +kernel
theorem dX2_init_84 : decode cX2_init 84 = .ok (.putfield 57, 3) := by decide +kernel
theorem dX2_init_87 : decode cX2_init 87 = .ok (.aload_n 0, 1) := by decide +kernel
theorem dX2_init_88 : decode cX2_init 88 = .ok (.iconst 0, 1) := by decide +kernel
theorem dX2_init_89 : decode cX2_init 89 = .ok (.putfield 60, 3) := by decide +kernel
theorem dX2_init_92 : decode cX2_init 92 = .ok (.aload_n 0, 1) := by decide +kernel
theorem dX2_init_93 : decode cX2_init 93 = .ok (.iconst 0, 1) := by decide +kernel
theorem dX2_init_94 : decode cX2_init 94 = .ok (.putfield 63, 3) := by decide +kernel
theorem dX2_init_97 : decode cX2_init 97 = .ok (.aload_n 0, 1) := by decide +kernel
theorem dX2_init_98 : decode cX2_init 98 = .ok (.iconst (-1), 1) := by decide +kernel
theorem dX2_init_99 : decode cX2_init 99 = .ok (.putfield 67, 3) := by decide +kernel
theorem dX2_init_102 : decode cX2_init 102 = .ok (.aload_n 0, 1) := by decide +kernel
theorem dX2_init_103 : decode cX2_init 103 = .ok (.iconst (-1), 1) := by decide +kernel
theorem dX2_init_104 : decode cX2_init 104 = .ok (.putfield 70, 3) := by decide +kernel
theorem dX2_init_107 : decode cX2_init 107 = .ok (.aload_n 0, 1) := by decide +kernel
theorem dX2_init_108 : decode cX2_init 108 = .ok (.iconst (-1), 1) := by decide +kernel
theorem dX2_init_109 : decode cX2_init 109 = .ok (.putfield 73, 3) := by decide +kernel
theorem dX2_init_112 : decode cX2_init 112 = .ok (.aload_n 0, 1) := by decide +kernel
theorem dX2_init_113 : decode cX2_init 113 = .ok (.iconst (-1), 1) := by decide +kernel
theorem dX2_init_114 : decode cX2_init 114 = .ok (.putfield 76, 3) := by decide +kernel
theorem dX2_init_117 : decode cX2_init 117 = .ok (.aload_n 0, 1) := by decide +kernel
theorem dX2_init_118 : decode cX2_init 118 = .ok (.iconst 0, 1) := by decide +kernel
theorem dX2_init_119 : decode cX2_init 119 = .ok (.putfield 79, 3) := by decide +kernel
theorem dX2_init_122 : decode cX2_init 122 = .ok (.iconst 0, 1) := by decide +kernel
theorem dX2_init_123 : decode cX2_init 123 = .ok (.istore_n 1, 1) := by decide +kernel
theorem dX2_init_124 : decode cX2_init 124 = .ok (.iload_n 1, 1) := by decide +kernel
theorem dX2_init_125 : decode cX2_init 125 = .ok (.iconst 4, 1) := by decide +kernel
theorem dX2_init_126 : decode cX2_init 126 = .ok (.if_icmp .ge 22, 3) := by decide +kernel
theorem dX2_init_129 : decode cX2_init 129 = .ok (.aload_n 0, 1) := by decide +kernel
theorem dX2_init_130 : decode cX2_init 130 = .ok (.getfield 30, 3) := by decide +kernel
theorem dX2_init_133 : decode cX2_init 133 = .ok (.iload_n 1, 1) := by decide +kernel
theorem dX2_init_134 : decode cX2_init 134 = .ok (.new 28, 3) := by decide +kernel
theorem dX2_init_137 : decode cX2_init 137 = .ok (.dup, 1) := by decide +kernel
theorem dX2_init_138 : decode cX2_init 138 = .ok (.invokespecial 82, 3) := by decide +kernel
theorem dX2_init_141 : decode cX2_init 141 = .ok (.aastore, 1) := by decide +kernel
theorem dX2_init_142 : decode cX2_init 142 = .ok (.iinc 1 1, 3) := by decide +kernel
theorem dX2_init_145 : decode cX2_init 145 = .ok (.goto (-21), 3) := by decide +kernel
theorem dX2_init_148 : decode cX2_init 148 = .ok (.return_, 1) := by decide +kernel
theorem dX5_init_0 : decode cX5_init 0 = .ok (.aload_n 0, 1) := by decide +kernel
theorem dX5_init_1 : decode cX5_init 1 = .ok (.invokespecial 3, 3) := by decide +kernel
theorem dX5_init_4 : decode cX5_init 4 = .ok (.aload_n 0, 1) := by decide +kernel
theorem dX5_init_5 : decode cX5_init 5 = .ok (.bipush 6, 2) := by decide +kernel
theorem dX5_init_7 : decode cX5_init 7 = .ok (.newarray .int, 2) := by decide +kernel
theorem dX5_init_9 : decode cX5_init 9 = .ok (.putfield 9, 3) := by decide +kernel
theorem dX5_init_12 : decode cX5_init 12 = .ok (.aload_n 0, 1) := by decide +kernel
theorem dX5_init_13 : decode cX5_init 13 = .ok (.bipush 23, 2) := by decide +kernel
theorem dX5_init_15 : decode cX5_init 15 = .ok (.newarray .int, 2) := by decide +kernel
theorem dX5_init_17 : decode cX5_init 17 = .ok (.putfield 15, 3) := by decide +kernel
theorem dX5_init_20 : decode cX5_init 20 = .ok (.aload_n 0, 1) := by decide +kernel
theorem dX5_init_21 : decode cX5_init 21 = .ok (.bipush 9, 2) := by decide +kernel
theorem dX5_init_23 : decode cX5_init 23 = .ok (.newarray .int, 2) := by decide +kernel
theorem dX5_init_25 : decode cX5_init 25 = .ok (.putfield 18, 3) := by decide +kernel
theorem dX5_init_28 : decode cX5_init 28 = .ok (.aload_n 0, 1) := by decide +kernel
theorem dX5_init_29 : decode cX5_init 29 = .ok (.iconst 2, 1) := by decide +kernel
theorem dX5_init_30 : decode cX5_init 30 = .ok (.anewarray 21, 3) := by decide +kernel
theorem dX5_init_33 : decode cX5_init 33 = .ok (.putfield 23, 3) := by decide +kernel
theorem dX5_init_36 : decode cX5_init 36 = .ok (.aload_n 0, 1) := by decide +kernel
theorem dX5_init_37 : decode cX5_init 37 = .ok (.iconst 0, 1) := by decide +kernel
theorem dX5_init_38 : decode cX5_init 38 = .ok (.putfield 27, 3) := by decide +kernel
theorem dX5_init_41 : decode cX5_init 41 = .ok (.aload_n 0, 1) := by decide +kernel
theorem dX5_init_42 : decode cX5_init 42 = .ok (.iconst 0, 1) := by decide +kernel
theorem dX5_init_43 : decode cX5_init 43 = .ok (.putfield 31, 3) := by decide +kernel
theorem dX5_init_46 : decode cX5_init 46 = .ok (.aload_n 0, 1) := by decide +kernel
theorem dX5_init_47 : decode cX5_init 47 = .ok (.iconst 1, 1) := by decide +kernel
theorem dX5_init_48 : decode cX5_init 48 = .ok (.putfield 34, 3) := by decide +kernel
theorem dX5_init_51 : decode cX5_init 51 = .ok (.aload_n 0, 1) := by decide +kernel
theorem dX5_init_52 : decode cX5_init 52 = .ok (.bipush 16, 2) := by decide +kernel
theorem dX5_init_54 : decode cX5_init 54 = .ok (.putfield 37, 3) := by decide +kernel
theorem dX5_init_57 : decode cX5_init 57 = .ok (.aload_n 0, 1) := by decide +kernel
theorem dX5_init_58 : decode cX5_init 58 = .ok (.iconst 2, 1) := by decide +kernel
theorem dX5_init_59 : decode cX5_init 59 = .ok (.putfield 40, 3) := by decide +kernel
theorem dX5_init_62 : decode cX5_init 62 = .ok (.aload_n 0, 1) := by decide +kernel
theorem dX5_init_63 : decode cX5_init 63 = .ok (.iconst 0, 1) := by decide +kernel
theorem dX5_init_64 : decode cX5_init 64 = .ok (.putfield 43, 3) := by decide +kernel
theorem dX5_init_67 : decode cX5_init 67 = .ok (.iconst 0, 1) := by decide +kernel
theorem dX5_init_68 : decode cX5_init 68 = .ok (.istore_n 1, 1) := by decide +kernel
theorem dX5_init_69 : decode cX5_init 69 = .ok (.iload_n 1, 1) := by decide +kernel
theorem dX5_init_70 : decode cX5_init 70 = .ok (.iconst 2, 1) := by decide +kernel
theorem dX5_init_71 : decode cX5_init 71 = .ok (.if_icmp .ge 22, 3) := by decide +kernel
theorem dX5_init_74 : decode cX5_init 74 = .ok (.aload_n 0, 1) := by decide +kernel
theorem dX5_init_75 : decode cX5_init 75 = .ok (.getfield 23, 3) := by decide +kernel
theorem dX5_init_78 : decode cX5_init 78 = .ok (.iload_n 1, 1) := by decide +kernel
theorem dX5_init_79 : decode cX5_init 79 = .ok (.new 21, 3) := by decide +kernel
theorem dX5_init_82 : decode cX5_init 82 = .ok (.dup, 1) := by decide +kernel
theorem dX5_init_83 : decode cX5_init 83 = .ok (.invokespecial 46, 3) := by decide +kernel
theorem dX5_init_86 : decode cX5_init 86 = .ok (.aastore, 1) := by decide +kernel
theorem dX5_init_87 : decode cX5_init 87 = .ok (.iinc 1 1, 3) := by decide +kernel
theorem dX5_init_90 : decode cX5_init 90 = .ok (.goto (-21), 3) := by decide +kernel
theorem dX5_init_93 : decode cX5_init 93 = .ok (.return_, 1) := by decide +kernel
theorem dX6_init_0 : decode cX6_init 0 = .ok (.aload_n 0, 1) := by decide +kernel
theorem dX6_init_1 : decode cX6_init 1 = .ok (.invokespecial 3, 3) := by decide +kernel
theorem dX6_init_4 : decode cX6_init 4 = .ok (.aload_n 0, 1) := by decide +kernel
theorem dX6_init_5 : decode cX6_init 5 = .ok (.new 9, 3) := by decide +kernel
theorem dX6_init_8 : decode cX6_init 8 = .ok (.dup, 1) := by decide +kernel
theorem dX6_init_9 : decode cX6_init 9 = .ok (.invokespecial 11, 3) := by decide +kernel
theorem dX6_init_12 : decode cX6_init 12 = .ok (.putfield 12, 3) := by decide +kernel
theorem dX6_init_15 : decode cX6_init 15 = .ok (.aload_n 0, 1) := by decide +kernel
theorem dX6_init_16 : decode cX6_init 16 = .ok (.new 9, 3) := by decide +kernel
theorem dX6_init_19 : decode cX6_init 19 = .ok (.dup, 1) := by decide +kernel
theorem dX6_init_20 : decode cX6_init 20 = .ok (.invokespecial 11, 3) := by decide +kernel
theorem dX6_init_23 : decode cX6_init 23 = .ok (.putfield 16, 3) := by decide +kernel
theorem dX6_init_26 : decode cX6_init 26 = .ok (.aload_n 0, 1) := by decide +kernel
theorem dX6_init_27 : decode cX6_init 27 = .ok (.iconst 2, 1) := by decide +kernel
theorem dX6_init_28 : decode cX6_init 28 = .ok (.anewarray 9, 3) := by decide +kernel
theorem dX6_init_31 : decode cX6_init 31 = .ok (.putfield 19, 3) := by decide +kernel
theorem dX6_init_34 : decode cX6_init 34 = .ok (.aload_n 0, 1) := by decide +kernel
theorem dX6_init_35 : decode cX6_init 35 = .ok (.iconst 2, 1) := by decide +kernel
theorem dX6_init_36 : decode cX6_init 36 = .ok (.newarray .boolean, 2) := by decide +kernel
theorem dX6_init_38 : decode cX6_init 38 = .ok (.putfield 23, 3) := by decide +kernel
theorem dX6_init_41 : decode cX6_init 41 = .ok (.aload_n 0, 1) := by decide +kernel
theorem dX6_init_42 : decode cX6_init 42 = .ok (.bipush 8, 2) := by decide +kernel
theorem dX6_init_44 : decode cX6_init 44 = .ok (.anewarray 9, 3) := by decide +kernel
theorem dX6_init_47 : decode cX6_init 47 = .ok (.putfield 27, 3) := by decide +kernel
theorem dX6_init_50 : decode cX6_init 50 = .ok (.aload_n 0, 1) := by decide +kernel
theorem dX6_init_51 : decode cX6_init 51 = .ok (.bipush 8, 2) := by decide +kernel
theorem dX6_init_53 : decode cX6_init 53 = .ok (.newarray .int, 2) := by decide +kernel
theorem dX6_init_55 : decode cX6_init 55 = .ok (.putfield 30, 3) := by decide +kernel
theorem dX6_init_58 : decode cX6_init 58 = .ok (.aload_n 0, 1) := by decide +kernel
theorem dX6_init_59 : decode cX6_init 59 = .ok (.iconst 0, 1) := by decide +kernel
theorem dX6_init_60 : decode cX6_init 60 = .ok (.putfield 34, 3) := by decide +kernel
theorem dX6_init_63 : decode cX6_init 63 = .ok (.aload_n 0, 1) := by decide +kernel
theorem dX6_init_64 : decode cX6_init 64 = .ok (.iconst 0, 1) := by decide +kernel
theorem dX6_init_65 : decode cX6_init 65 = .ok (.putfield 38, 3) := by decide +kernel
theorem dX6_init_68 : decode cX6_init 68 = .ok (.aload_n 0, 1) := by decide +kernel
theorem dX6_init_69 : decode cX6_init 69 = .ok (.iconst 5, 1) := by decide +kernel
theorem dX6_init_70 : decode cX6_init 70 = .ok (.newarray .int, 2) := by decide +kernel
theorem dX6_init_72 : decode cX6_init 72 = .ok (.putfield 41, 3) := by decide +kernel
theorem dX6_init_75 : decode cX6_init 75 = .ok (.aload_n 0, 1) := by decide +kernel
theorem dX6_init_76 : decode cX6_init 76 = .ok (.iconst 0, 1) := by decide +kernel
theorem dX6_init_77 : decode cX6_init 77 = .ok (.putfield 44, 3) := by decide +kernel
theorem dX6_init_80 : decode cX6_init 80 = .ok (.aload_n 0, 1) := by decide +kernel
theorem dX6_init_81 : decode cX6_init 81 = .ok (.sipush 512, 3) := by decide +kernel
theorem dX6_init_84 : decode cX6_init 84 = .ok (.newarray .int, 2) := by decide +kernel
theorem dX6_init_86 : decode cX6_init 86 = .ok (.putfield 47, 3) := by decide +kernel
theorem dX6_init_89 : decode cX6_init 89 = .ok (.aload_n 0, 1) := by decide +kernel
theorem dX6_init_90 : decode cX6_init 90 = .ok (.sipush 576, 3) := by decide +kernel
theorem dX6_init_93 : decode cX6_init 93 = .ok (.newarray .int, 2) := by decide +kernel
theorem dX6_init_95 : decode cX6_init 95 = .ok (.putfield 50, 3) := by decide +kernel
theorem dX6_init_98 : decode cX6_init 98 = .ok (.iconst 0, 1) := by decide +kernel
theorem dX6_init_99 : decode cX6_init 99 = .ok (.istore_n 1, 1) := by decide +kernel
theorem dX6_init_100 : decode cX6_init 100 = .ok (.iload_n 1, 1) := by decide +kernel
theorem dX6_init_101 : decode cX6_init 101 = .ok (.iconst 2, 1) := by decide +kernel
theorem dX6_init_102 : decode cX6_init 102 = .ok (.if_icmp .ge 22, 3) := by decide +kernel
theorem dX6_init_105 : decode cX6_init 105 = .ok (.aload_n 0, 1) := by decide +kernel
theorem dX6_init_106 : decode cX6_init 106 = .ok (.getfield 19, 3) := by decide +kernel
theorem dX6_init_109 : decode cX6_init 109 = .ok (.iload_n 1, 1) := by decide +kernel
theorem dX6_init_110 : decode cX6_init 110 = .ok (.new 9, 3) := by decide +kernel
theorem dX6_init_113 : decode cX6_init 113 = .ok (.dup, 1) := by decide +kernel
theorem dX6_init_114 : decode cX6_init 114 = .ok (.invokespecial 11, 3) := by decide +kernel
theorem dX6_init_117 : decode cX6_init 117 = .ok (.aastore, 1) := by decide +kernel
theorem dX6_init_118 : decode cX6_init 118 = .ok (.iinc 1 1, 3) := by decide +kernel
theorem dX6_init_121 : decode cX6_init 121 = .ok (.goto (-21), 3) := by decide +kernel
theorem dX6_init_124 : decode cX6_init 124 = .ok (.iconst 0, 1) := by decide +kernel
theorem dX6_init_125 : decode cX6_init 125 = .ok (.istore_n 1, 1) := by decide +kernel
theorem dX6_init_126 : decode cX6_init 126 = .ok (.iload_n 1, 1) := by decide +kernel
theorem dX6_init_127 : decode cX6_init 127 = .ok (.bipush 8, 2) := by decide +kernel
theorem dX6_init_129 : decode cX6_init 129 = .ok (.if_icmp .ge 22, 3) := by decide +kernel
theorem dX6_init_132 : decode cX6_init 132 = .ok (.aload_n 0, 1) := by decide +kernel
theorem dX6_init_133 : decode cX6_init 133 = .ok (.getfield 27, 3) := by decide +kernel
theorem dX6_init_136 : decode cX6_init 136 = .ok (.iload_n 1, 1) := by decide +kernel
theorem dX6_init_137 : decode cX6_init 137 = .ok (.new 9, 3) := by decide +kernel
theorem dX6_init_140 : decode cX6_init 140 = .ok (.dup, 1) := by decide +kernel
theorem dX6_init_141 : decode cX6_init 141 = .ok (.invokespecial 11, 3) := by decide +kernel
theorem dX6_init_144 : decode cX6_init 144 = .ok (.aastore, 1) := by decide +kernel
theorem dX6_init_145 : decode cX6_init 145 = .ok (.iinc 1 1, 3) := by decide +kernel
theorem dX6_init_148 : decode cX6_init 148 = .ok (.goto (-22), 3) := by decide +kernel
theorem dX6_init_151 : decode cX6_init 151 = .ok (.return_, 1) := by decide +kernel
theorem dX7_init_0 : decode cX7_init 0 = .ok (.aload_n 0, 1) := by decide +kernel
theorem dX7_init_1 : decode cX7_init 1 = .ok (.invokespecial 1, 3) := by decide +kernel
theorem dX7_init_4 : decode cX7_init 4 = .ok (.aload_n 0, 1) := by decide +kernel
theorem dX7_init_5 : decode cX7_init 5 = .ok (.bipush 6, 2) := by decide +kernel
theorem dX7_init_7 : decode cX7_init 7 = .ok (.newarray .int, 2) := by decide +kernel
theorem dX7_init_9 : decode cX7_init 9 = .ok (.putfield 7, 3) := by decide +kernel
theorem dX7_init_12 : decode cX7_init 12 = .ok (.aload_n 0, 1) := by decide +kernel
theorem dX7_init_13 : decode cX7_init 13 = .ok (.sipush 695, 3) := by decide +kernel
theorem dX7_init_16 : decode cX7_init 16 = .ok (.newarray .int, 2) := by decide +kernel
theorem dX7_init_18 : decode cX7_init 18 = .ok (.putfield 13, 3) := by decide +kernel
theorem dX7_init_21 : decode cX7_init 21 = .ok (.aload_n 0, 1) := by decide +kernel
theorem dX7_init_22 : decode cX7_init 22 = .ok (.sipush 5560, 3) := by decide +kernel
theorem dX7_init_25 : decode cX7_init 25 = .ok (.newarray .int, 2) := by decide +kernel
theorem dX7_init_27 : decode cX7_init 27 = .ok (.putfield 16, 3) := by decide +kernel
theorem dX7_init_30 : decode cX7_init 30 = .ok (.aload_n 0, 1) := by decide +kernel
theorem dX7_init_31 : decode cX7_init 31 = .ok (.bipush 8, 2) := by decide +kernel
theorem dX7_init_33 : decode cX7_init 33 = .ok (.newarray .int, 2) := by decide +kernel
theorem dX7_init_35 : decode cX7_init 35 = .ok (.putfield 19, 3) := by decide +kernel
theorem dX7_init_38 : decode cX7_init 38 = .ok (.aload_n 0, 1) := by decide +kernel
theorem dX7_init_39 : decode cX7_init 39 = .ok (.sipush 1390, 3) := by decide +kernel
theorem dX7_init_42 : decode cX7_init 42 = .ok (.newarray .int, 2) := by decide +kernel
theorem dX7_init_44 : decode cX7_init 44 = .ok (.putfield 22, 3) := by decide +kernel
theorem dX7_init_47 : decode cX7_init 47 = .ok (.aload_n 0, 1) := by decide +kernel
theorem dX7_init_48 : decode cX7_init 48 = .ok (.iconst 2, 1) := by decide +kernel
theorem dX7_init_49 : decode cX7_init 49 = .ok (.newarray .boolean, 2) := by decide +kernel
theorem dX7_init_51 : decode cX7_init 51 = .ok (.putfield 25, 3) := by decide +kernel
theorem dX7_init_54 : decode cX7_init 54 = .ok (.aload_n 0, 1) := by decide +kernel
theorem dX7_init_55 : decode cX7_init 55 = .ok (.sipush 695, 3) := by decide +kernel
theorem dX7_init_58 : decode cX7_init 58 = .ok (.newarray .int, 2) := by decide +kernel
theorem dX7_init_60 : decode cX7_init 60 = .ok (.putfield 29, 3) := by decide +kernel
theorem dX7_init_63 : decode cX7_init 63 = .ok (.aload_n 0, 1) := by decide +kernel
theorem dX7_init_64 : decode cX7_init 64 = .ok (.iconst 2, 1) := by decide +kernel
theorem dX7_init_65 : decode cX7_init 65 = .ok (.newarray .int, 2) := by decide +kernel
theorem dX7_init_67 : decode cX7_init 67 = .ok (.putfield 32, 3) := by decide +kernel
theorem dX7_init_70 : decode cX7_init 70 = .ok (.aload_n 0, 1) := by decide +kernel
theorem dX7_init_71 : decode cX7_init 71 = .ok (.iconst 2, 1) := by decide +kernel
theorem dX7_init_72 : decode cX7_init 72 = .ok (.newarray .int, 2) := by decide +kernel
theorem dX7_init_74 : decode cX7_init 74 = .ok (.putfield 35, 3) := by decide +kernel
theorem dX7_init_77 : decode cX7_init 77 = .ok (.aload_n 0, 1) := by decide +kernel
theorem dX7_init_78 : decode cX7_init 78 = .ok (.iconst 2, 1) := by decide +kernel
theorem dX7_init_79 : decode cX7_init 79 = .ok (.newarray .int, 2) := by decide +kernel
theorem dX7_init_81 : decode cX7_init 81 = .ok (.putfield 38, 3) := by decide +kernel
theorem dX7_init_84 : decode cX7_init 84 = .ok (.aload_n 0, 1) := by decide +kernel
theorem dX7_init_85 : decode cX7_init 85 = .ok (.iconst 2, 1) := by decide +kernel
theorem dX7_init_86 : decode cX7_init 86 = .ok (.newarray .boolean, 2) := by decide +kernel
theorem dX7_init_88 : decode cX7_init 88 = .ok (.putfield 41, 3) := by decide +kernel
theorem dX7_init_91 : decode cX7_init 91 = .ok (.aload_n 0, 1) := by decide +kernel
theorem dX7_init_92 : decode cX7_init 92 = .ok (.iconst 2, 1) := by decide +kernel
theorem dX7_init_93 : decode cX7_init 93 = .ok (.newarray .boolean, 2) := by decide +kernel
theorem dX7_init_95 : decode cX7_init 95 = .ok (.putfield 44, 3) := by decide +kernel
theorem dX7_init_98 : decode cX7_init 98 = .ok (.aload_n 0, 1) := by decide +kernel
theorem dX7_init_99 : decode cX7_init 99 = .ok (.iconst 2, 1) := by decide +kernel
theorem dX7_init_100 : decode cX7_init 100 = .ok (.newarray .boolean, 2) := by decide +kernel
theorem dX7_init_102 : decode cX7_init 102 = .ok (.putfield 47, 3) := by decide +kernel
theorem dX7_init_105 : decode cX7_init 105 = .ok (.aload_n 0, 1) := by decide +kernel
theorem dX7_init_106 : decode cX7_init 106 = .ok (.getfield 13, 3) := by decide +kernel
theorem dX7_init_109 : decode cX7_init 109 = .ok (.bipush 8, 2) := by decide +kernel
theorem dX7_init_111 : decode cX7_init 111 = .ok (.iconst 1, 1) := by decide +kernel
theorem dX7_init_112 : decode cX7_init 112 = .ok (.iastore, 1) := by decide +kernel
theorem dX7_init_113 : decode cX7_init 113 = .ok (.aload_n 0, 1) := by decide +kernel
theorem dX7_init_114 : decode cX7_init 114 = .ok (.getfield 13, 3) := by decide +kernel
theorem dX7_init_117 : decode cX7_init 117 = .ok (.bipush 9, 2) := by decide +kernel
theorem dX7_init_119 : decode cX7_init 119 = .ok (.bipush 16, 2) := by decide +kernel
theorem dX7_init_121 : decode cX7_init 121 = .ok (.iastore, 1) := by decide +kernel
theorem dX7_init_122 : decode cX7_init 122 = .ok (.aload_n 0, 1) := by decide +kernel
theorem dX7_init_123 : decode cX7_init 123 = .ok (.getfield 13, 3) := by decide +kernel
theorem dX7_init_126 : decode cX7_init 126 = .ok (.bipush 10, 2) := by decide +kernel
theorem dX7_init_128 : decode cX7_init 128 = .ok (.iconst 2, 1) := by decide +kernel
theorem dX7_init_129 : decode cX7_init 129 = .ok (.iastore, 1) := by decide +kernel
theorem dX7_init_130 : decode cX7_init 130 = .ok (.aload_n 0, 1) := by decide +kernel
theorem dX7_init_131 : decode cX7_init 131 = .ok (.getfield 13, 3) := by decide +kernel
theorem dX7_init_134 : decode cX7_init 134 = .ok (.bipush 42, 2) := by decide +kernel
theorem dX7_init_136 : decode cX7_init 136 = .ok (.iconst (-1), 1) := by decide +kernel
theorem dX7_init_137 : decode cX7_init 137 = .ok (.iastore, 1) := by decide +kernel
theorem dX7_init_138 : decode cX7_init 138 = .ok (.aload_n 0, 1) := by decide +kernel
theorem dX7_init_139 : decode cX7_init 139 = .ok (.getfield 13, 3) := by decide +kernel
theorem dX7_init_142 : decode cX7_init 142 = .ok (.sipush 368, 3) := by decide +kernel
theorem dX7_init_145 : decode cX7_init 145 = .ok (.iconst (-1), 1) := by decide +kernel
theorem dX7_init_146 : decode cX7_init 146 = .ok (.iastore, 1) := by decide +kernel
theorem dX7_init_147 : decode cX7_init 147 = .ok (.return_, 1) := by decide +kernel
theorem ct_swap {E : hE} {C0 : Nat → va_E} {k a b : Nat} {op : List (Nat × va_E)} {e x : va_E} (h : a ≠ b) : ct E C0 k ((a, e) :: (b, x) :: op) = ct E C0 k ((b, x) :: (a, e) :: op) := by
  funext j
  by_cases h1 : j = a
  · subst h1; simp [ct, sel, h]
  · by_cases h2 : j = b
    · subst h2; simp [ct, sel, h1]
    · simp [ct, sel, h1, h2]
theorem ct_swap2 {E : hE} {C0 : Nat → va_E} {k a b b2 : Nat} {op : List (Nat × va_E)} {e x x2 : va_E} (h : a ≠ b) (h3 : a ≠ b2) : ct E C0 k ((a, e) :: (b, x) :: (b2, x2) :: op) = ct E C0 k ((b, x) :: (b2, x2) :: (a, e) :: op) := by
  funext j
  by_cases h1 : j = a
  · subst h1; simp [ct, sel, h, h3]
  · by_cases h2 : j = b
    · subst h2; simp [ct, sel, h1]
    · by_cases h4 : j = b2
      · subst h4; simp [ct, sel, h1, h2]
      · simp [ct, sel, h1, h2, h4]
theorem r0_fn8 {k : Nat} (h : hk k = 8) (h2 : k ≠ 1078) : r0 k = fun _ => 0 := by
  funext j
  simp [r0, h, h2]
theorem r0_fn9 {k : Nat} (h : hk k = 9) (h2 : k ≠ 1078) : r0 k = fun _ => 0 := by
  funext j
  simp [r0, h, h2]
theorem r0_link {k j : Nat} (h : hk k = 10) : r0 k j = nI (k + 1 + 9 * j) := by simp [r0, h]
theorem row_fin : r0 1078 = upd (upd (upd (upd (upd (fun _ => 0) 8 1) 9 16) 10 2) 42 (-1)) 368 (-1) := by
  funext j
  have e : hk 1078 = 8 := by decide +kernel
  unfold r0
  rw [e, if_neg (by decide), if_neg (by decide), if_neg (by decide), if_neg (by decide), if_pos rfl]
  unfold upd
  by_cases h1 : j = 368
  · subst h1; rfl
  · by_cases h2 : j = 42
    · subst h2; rfl
    · rw [if_neg h1, if_neg h2, if_neg (show ¬ (j = 42 ∨ j = 368) by omega)]
      by_cases h3 : j = 10
      · subst h3; rfl
      · by_cases h4 : j = 9
        · subst h4; rfl
        · by_cases h5 : j = 8
          · subst h5; rfl
          · simp [h3, h4, h5]

set_option maxHeartbeats 4000000 in
set_option maxRecDepth 100000 in
theorem k_X0_init (l : Launch) (E : hE) (C : Nat → va_E) (k : Nat) (h : hk k = 0) (hC : C k = .inr (0, [.int 0, .int 0, .int 0, .int 0, .int 0, .int 0])) : Met l yX0_init (.code yX0_init cX0_init 1 none :: gw_all) (rmc 1 0 0 40) (xPre E C (k + 1) [.ref (E.2.1 + k)]) (xQ E (k + 1) (fun j => if j < k then C j else hcc E j (r0 j))) 0 0 (hA E) := by
  refine entC (own := RX0) (by decide) rfl rfl (Nat.le_of_ble_eq_true rfl) ?_
  intro p e s m below meth c ls B hr hlk hin hl hz hP hS
  have hx := B.1.1
  have hb := B.1.2.1
  have hown := B.1.2.2.2.1
  have hts := B.1.2.2.2.2
  have hml := B.1.2.2.1
  have hk1 := hk_lt h (by decide)
  have hl : lv_has ls 1 [(0, .ref (E.2.1 + k))] := hl
  rw [ct_start hC] at hP
  refine lv_aload_n hx hb dX0_init_0 rfl (lv_at hl 0 rfl) ?_
  refine W.objInit hx hb hown (hts _ mw_165) (hts _ mw_69) (hts _ mw_70) rfl (by rw [hml]; exact hl.1) rfl dX0_init_1 (Nat.le_of_ble_eq_true rfl) (Nat.le_of_ble_eq_true rfl) ?_
  refine W.eq (g2 := F0 m 4 ls []) rfl ?_
  have hP : va_P E.1 vwCl (wl E (k + 1) (fun j => if j < k then C j else hcc E j (r0 j))) s.heap := by
    refine ct_end hP (List.forall_mem_cons.mpr ⟨(show k ≤ k from (by omega)), fun _ h => absurd h List.not_mem_nil⟩) (List.forall_mem_cons.mpr ⟨fun h0 => ?_, fun _ h => absurd h List.not_mem_nil⟩)
    · show va_at E.1 vwCl (E.2.1 + k, hcc E k (r0 k)) s.heap
      rw [hcc0 _ _ h]
      have e : fl0 E k (r0 k) = [.int 0, .int 0, .int 0, .int 0, .int 0, .int 0] := by simp [fl0, r0, h, (show k ≠ 1078 from fun e => absurd (e ▸ h) (by decide +kernel))]
      rw [e]
      exact h0
  exact ret_c B hr hlk hz hP hS dX0_init_4

set_option maxHeartbeats 4000000 in
set_option maxRecDepth 100000 in
theorem k_X3_init (l : Launch) (E : hE) (C : Nat → va_E) (k : Nat) (h : hk k = 3) (hC : C k = .inr (3, [.int 0, .int 0, .int 0])) : Met l yX3_init (.code yX3_init cX3_init 1 none :: gw_all) (rmc 1 0 0 40) (xPre E C (k + 1) [.ref (E.2.1 + k)]) (xQ E (k + 1) (fun j => if j < k then C j else hcc E j (r0 j))) 0 0 (hA E) := by
  refine entC (own := RX3) (by decide) rfl rfl (Nat.le_of_ble_eq_true rfl) ?_
  intro p e s m below meth c ls B hr hlk hin hl hz hP hS
  have hx := B.1.1
  have hb := B.1.2.1
  have hown := B.1.2.2.2.1
  have hts := B.1.2.2.2.2
  have hml := B.1.2.2.1
  have hk1 := hk_lt h (by decide)
  have hl : lv_has ls 1 [(0, .ref (E.2.1 + k))] := hl
  rw [ct_start hC] at hP
  refine lv_aload_n hx hb dX3_init_0 rfl (lv_at hl 0 rfl) ?_
  refine W.objInit hx hb hown (hts _ mw_89) (hts _ mw_69) (hts _ mw_70) rfl (by rw [hml]; exact hl.1) rfl dX3_init_1 (Nat.le_of_ble_eq_true rfl) (Nat.le_of_ble_eq_true rfl) ?_
  refine W.eq (g2 := F0 m 4 ls []) rfl ?_
  refine lv_aload_n hx hb dX3_init_4 rfl (lv_at hl 0 rfl) ?_
  refine lv_ldc (v := 8388607) hx hb hown (hts _ mw_90) dX3_init_5 ?_
  refine x_putI (ci := 3) tyX3 B hz hP hS in3 tyX3_ok nmX3 rfl (by omega) sel_hd 0 (by decide) rfl mw_91 rfl rfl rfl (Nat.lt_of_lt_of_le (show 0 < 3 by decide) (Nat.le_of_ble_eq_true rfl)) dX3_init_7 (fun H locs hz hP hS => ?_)
  rw [ct_up0] at hP
  have hz : H.size = E.2.1 + (k + 1) := hz
  have hP : va_P E.1 vwCl (wl E (k + 1) (ct E C k [(k, .inr (3, [.int 8388607, .int 0, .int 0]))])) H := hP
  refine lv_aload_n hx hb dX3_init_10 rfl (lv_at hl 0 rfl) ?_
  refine lv_iconst (v := 0) hx hb dX3_init_11 (by decide) ?_
  refine x_putI (ci := 3) tyX3 B hz hP hS in3 tyX3_ok nmX3 rfl (by omega) sel_hd 1 (by decide) rfl mw_96 rfl rfl rfl (Nat.lt_of_lt_of_le (show 1 < 3 by decide) (Nat.le_of_ble_eq_true rfl)) dX3_init_12 (fun H locs hz hP hS => ?_)
  rw [ct_up0] at hP
  have hz : H.size = E.2.1 + (k + 1) := hz
  have hP : va_P E.1 vwCl (wl E (k + 1) (ct E C k [(k, .inr (3, [.int 8388607, .int 0, .int 0]))])) H := hP
  refine lv_aload_n hx hb dX3_init_15 rfl (lv_at hl 0 rfl) ?_
  refine lv_iconst (v := (-1)) hx hb dX3_init_16 (by decide) ?_
  refine x_putI (ci := 3) tyX3 B hz hP hS in3 tyX3_ok nmX3 rfl (by omega) sel_hd 2 (by decide) rfl mw_99 rfl rfl rfl (Nat.lt_of_lt_of_le (show 2 < 3 by decide) (Nat.le_of_ble_eq_true rfl)) dX3_init_17 (fun H locs hz hP hS => ?_)
  rw [ct_up0] at hP
  have hz : H.size = E.2.1 + (k + 1) := hz
  have hP : va_P E.1 vwCl (wl E (k + 1) (ct E C k [(k, .inr (3, [.int 8388607, .int 0, .int (-1)]))])) H := hP
  have hP : va_P E.1 vwCl (wl E (k + 1) (fun j => if j < k then C j else hcc E j (r0 j))) H := by
    refine ct_end hP (List.forall_mem_cons.mpr ⟨(show k ≤ k from (by omega)), fun _ h => absurd h List.not_mem_nil⟩) (List.forall_mem_cons.mpr ⟨fun h0 => ?_, fun _ h => absurd h List.not_mem_nil⟩)
    · show va_at E.1 vwCl (E.2.1 + k, hcc E k (r0 k)) H
      rw [hcc3 _ _ h]
      have e : fl3 E k (r0 k) = [.int 8388607, .int 0, .int (-1)] := by simp [fl3, r0, h]
      rw [e]
      exact h0
  exact ret_c B hr hlk hz hP hS dX3_init_20

set_option maxHeartbeats 4000000 in
set_option maxRecDepth 100000 in
theorem k_X4_init (l : Launch) (E : hE) (C : Nat → va_E) (k : Nat) (h : hk k = 4) (hC : C k = .inr (4, [.null, .null, .int 0, .int 0, .int 0, .int 0, .int 0, .int 0])) : Met l yX4_init (.code yX4_init cX4_init 1 none :: gw_all) (rmc 1 2 16 40) (xPre E C (k + 1) [.ref (E.2.1 + k)]) (xQ E (k + 3) (fun j => if j < k then C j else hcc E j (r0 j))) 2 16 (hA E) := by
  refine entC (own := RX4) (by decide) rfl rfl (Nat.le_of_ble_eq_true rfl) ?_
  intro p e s m below meth c ls B hr hlk hin hl hz hP hS
  have hx := B.1.1
  have hb := B.1.2.1
  have hown := B.1.2.2.2.1
  have hts := B.1.2.2.2.2
  have hml := B.1.2.2.1
  have hk1 := hk_lt h (by decide)
  have hl : lv_has ls 1 [(0, .ref (E.2.1 + k))] := hl
  rw [ct_start hC] at hP
  refine lv_aload_n hx hb dX4_init_0 rfl (lv_at hl 0 rfl) ?_
  refine W.objInit hx hb hown (hts _ mw_125) (hts _ mw_69) (hts _ mw_70) rfl (by rw [hml]; exact hl.1) rfl dX4_init_1 (Nat.le_of_ble_eq_true rfl) (Nat.le_of_ble_eq_true rfl) ?_
  refine W.eq (g2 := F0 m 4 ls []) rfl ?_
  refine lv_aload_n hx hb dX4_init_4 rfl (lv_at hl 0 rfl) ?_
  refine lv_bipush (v := 8) hx hb dX4_init_5 (by decide) ?_
  refine x_arrI (n0 := 8) B hz hP hS mw_109 (by decide) (by decide) (Nat.le_of_ble_eq_true rfl) (Nat.le_of_ble_eq_true rfl) (Nat.le_of_ble_eq_true rfl) dX4_init_7 (fun H hz hP hS => ?_)
  rw [ct_arr (List.forall_mem_cons.mpr ⟨(show k < (k + 1) from (by omega)), fun _ h => absurd h List.not_mem_nil⟩) (by omega) (by rw [hcc8 _ _ (show hk (k + 1) = 8 from (lay4 h).1), show hlen (k + 1) = 8 from (lay4 h).2.1, r0_fn8 (show hk (k + 1) = 8 from (lay4 h).1) (by have := lay4l h; omega)])] at hP
  have hz : H.size = E.2.1 + (k + 2) := hz
  have hP : va_P E.1 vwCl (wl E (k + 2) (ct E C k [(k, .inr (4, [.null, .null, .int 0, .int 0, .int 0, .int 0, .int 0, .int 0]))])) H := hP
  refine W.cs (cells' := 1) (slots' := 8) rfl rfl ?_
  refine x_putF (ci := 4) tyX4 B hz hP hS in4 tyX4_ok nmX4 rfl (by omega) sel_hd 0 (by decide) rfl rfl mw_126 rfl hin rfl rfl (Nat.lt_of_lt_of_le (show 0 < 8 by decide) (Nat.le_of_ble_eq_true rfl)) dX4_init_9 (fun H locs hz hP hS => ?_)
  rw [ct_up0] at hP
  have hz : H.size = E.2.1 + (k + 2) := hz
  have hP : va_P E.1 vwCl (wl E (k + 2) (ct E C k [(k, .inr (4, [.ref (E.2.1 + (k + 1)), .null, .int 0, .int 0, .int 0, .int 0, .int 0, .int 0]))])) H := hP
  refine lv_aload_n hx hb dX4_init_12 rfl (lv_at hl 0 rfl) ?_
  refine lv_bipush (v := 8) hx hb dX4_init_13 (by decide) ?_
  refine x_arrI (n0 := 8) B hz hP hS mw_109 (by decide) (by decide) (Nat.le_of_ble_eq_true rfl) (Nat.le_of_ble_eq_true rfl) (Nat.le_of_ble_eq_true rfl) dX4_init_15 (fun H hz hP hS => ?_)
  rw [ct_arr (List.forall_mem_cons.mpr ⟨(show k < (k + 2) from (by omega)), fun _ h => absurd h List.not_mem_nil⟩) (by omega) (by rw [hcc8 _ _ (show hk (k + 2) = 8 from (lay4 h).2.2.1), show hlen (k + 2) = 8 from (lay4 h).2.2.2, r0_fn8 (show hk (k + 2) = 8 from (lay4 h).2.2.1) (by have := lay4l h; omega)])] at hP
  have hz : H.size = E.2.1 + (k + 3) := hz
  have hP : va_P E.1 vwCl (wl E (k + 3) (ct E C k [(k, .inr (4, [.ref (E.2.1 + (k + 1)), .null, .int 0, .int 0, .int 0, .int 0, .int 0, .int 0]))])) H := hP
  refine W.cs (cells' := 2) (slots' := 16) rfl rfl ?_
  refine x_putF (ci := 4) tyX4 B hz hP hS in4 tyX4_ok nmX4 rfl (by omega) sel_hd 1 (by decide) rfl rfl mw_128 rfl hin rfl rfl (Nat.lt_of_lt_of_le (show 1 < 8 by decide) (Nat.le_of_ble_eq_true rfl)) dX4_init_17 (fun H locs hz hP hS => ?_)
  rw [ct_up0] at hP
  have hz : H.size = E.2.1 + (k + 3) := hz
  have hP : va_P E.1 vwCl (wl E (k + 3) (ct E C k [(k, .inr (4, [.ref (E.2.1 + (k + 1)), .ref (E.2.1 + (k + 2)), .int 0, .int 0, .int 0, .int 0, .int 0, .int 0]))])) H := hP
  have hP : va_P E.1 vwCl (wl E (k + 3) (fun j => if j < k then C j else hcc E j (r0 j))) H := by
    refine ct_end hP (List.forall_mem_cons.mpr ⟨(show k ≤ k from (by omega)), fun _ h => absurd h List.not_mem_nil⟩) (List.forall_mem_cons.mpr ⟨fun h0 => ?_, fun _ h => absurd h List.not_mem_nil⟩)
    · show va_at E.1 vwCl (E.2.1 + k, hcc E k (r0 k)) H
      rw [hcc4 _ _ h]
      have e : fl4 E k (r0 k) = [.ref (E.2.1 + (k + 1)), .ref (E.2.1 + (k + 2)), .int 0, .int 0, .int 0, .int 0, .int 0, .int 0] := by simp [fl4, r0, h, (show k ≠ 1078 from fun e => absurd (e ▸ h) (by decide +kernel))]
      rw [e]
      exact h0
  exact ret_c B hr hlk hz hP hS dX4_init_20

theorem lkc_X0 : LkC yX0_init cX0_init 1 := ⟨⟨mw_163, mw_58, mw_164⟩, rfl, by decide +kernel⟩
theorem lkc_X3 : LkC yX3_init cX3_init 1 := ⟨⟨mw_87, mw_55, mw_88⟩, rfl, by decide +kernel⟩
theorem lkc_X4 : LkC yX4_init cX4_init 1 := ⟨⟨mw_123, mw_57, mw_124⟩, rfl, by decide +kernel⟩
set_option maxHeartbeats 4000000 in
set_option maxRecDepth 100000 in
theorem k_X1_init (l : Launch) (E : hE) (C : Nat → va_E) (k : Nat) (h : hk k = 1) (hC : C k = .inr (1, [.null, .null, .null, .null, .int 0, .int 0, .int 0, .int 0, .int 0, .int 0, .int 0, .int 0, .int 0, .int 0, .int 0, .int 0, .int 0, .int 0])) : Met l yX1_init (.code yX1_init cX1_init 1 none :: gw_all) (rmc 2 8 57 80) (xPre E C (k + 1) [.ref (E.2.1 + k)]) (xQ E (k + 9) (fun j => if j < k then C j else hcc E j (r0 j))) 8 57 (hA E) := by
  refine entC (own := RX1) (by decide) rfl rfl (Nat.le_of_ble_eq_true rfl) ?_
  intro p e s m below meth c ls B hr hlk hin hl hz hP hS
  have hx := B.1.1
  have hb := B.1.2.1
  have hown := B.1.2.2.2.1
  have hts := B.1.2.2.2.2
  have hml := B.1.2.2.1
  have hk1 := hk_lt h (by decide)
  have hl : lv_has ls 1 [(0, .ref (E.2.1 + k))] := hl
  rw [ct_start hC] at hP
  refine lv_aload_n hx hb dX1_init_0 rfl (lv_at hl 0 rfl) ?_
  refine W.objInit hx hb hown (hts _ mw_117) (hts _ mw_69) (hts _ mw_70) rfl (by rw [hml]; exact hl.1) rfl dX1_init_1 (Nat.le_of_ble_eq_true rfl) (Nat.le_of_ble_eq_true rfl) ?_
  refine W.eq (g2 := F0 m 4 ls []) rfl ?_
  refine lv_aload_n hx hb dX1_init_4 rfl (lv_at hl 0 rfl) ?_
  refine x_new (ci := 3) (fs := [.int 0, .int 0, .int 0]) tyX3 B hz hP hS in3 tyX3_ok rfl mw_118 mw_85 mw_55 (by decide) (Nat.le_of_ble_eq_true rfl) (Nat.le_of_ble_eq_true rfl) dX1_init_5 (fun H hz hP hS => ?_)
  rw [ct_push] at hP
  have hz : H.size = E.2.1 + ((k + 1) + 1) := hz
  refine W.cs (cells' := 1) (slots' := 3) rfl rfl ?_
  refine lv_dup hx hb dX1_init_8 rfl ?_
  refine xcN B hz hP hS (k_X3_init l E _ (k + 1) (lay1 h).1 sel_hd) (List.mem_of_getElem? (i := 2) rfl) lkc_X3 hl.1 (Nat.le_of_ble_eq_true rfl) ⟨Nat.le_of_ble_eq_true rfl, Nat.le_of_ble_eq_true rfl⟩ ⟨Nat.le_of_ble_eq_true rfl, Nat.le_of_ble_eq_true rfl⟩ dX1_init_9 (fun H locs hz hP hS => ?_)
  rw [ct_call (List.forall_mem_cons.mpr ⟨(show k < (k + 1) from (by omega)), fun _ h => absurd h List.not_mem_nil⟩) (by omega)] at hP
  have hz : H.size = E.2.1 + (k + 2) := hz
  have hP : va_P E.1 vwCl (wl E (k + 2) (ct E C k [(k, .inr (1, [.null, .null, .null, .null, .int 0, .int 0, .int 0, .int 0, .int 0, .int 0, .int 0, .int 0, .int 0, .int 0, .int 0, .int 0, .int 0, .int 0]))])) H := hP
  refine W.cs (cells' := 1) (slots' := 3) rfl rfl ?_
  refine x_putF (ci := 1) tyX1 B hz hP hS in1 tyX1_ok nmX1 rfl (by omega) sel_hd 0 (by decide) rfl rfl mw_193 rfl hin rfl rfl (Nat.lt_of_lt_of_le (show 0 < 18 by decide) (Nat.le_of_ble_eq_true rfl)) dX1_init_12 (fun H locs hz hP hS => ?_)
  rw [ct_up0] at hP
  have hz : H.size = E.2.1 + (k + 2) := hz
  have hP : va_P E.1 vwCl (wl E (k + 2) (ct E C k [(k, .inr (1, [.ref (E.2.1 + (k + 1)), .null, .null, .null, .int 0, .int 0, .int 0, .int 0, .int 0, .int 0, .int 0, .int 0, .int 0, .int 0, .int 0, .int 0, .int 0, .int 0]))])) H := hP
  refine lv_aload_n hx hb dX1_init_15 rfl (lv_at hl 0 rfl) ?_
  refine x_new (ci := 4) (fs := [.null, .null, .int 0, .int 0, .int 0, .int 0, .int 0, .int 0]) tyX4 B hz hP hS in4 tyX4_ok rfl mw_120 mw_121 mw_57 (by decide) (Nat.le_of_ble_eq_true rfl) (Nat.le_of_ble_eq_true rfl) dX1_init_16 (fun H hz hP hS => ?_)
  rw [ct_push] at hP
  have hz : H.size = E.2.1 + ((k + 2) + 1) := hz
  refine W.cs (cells' := 2) (slots' := 11) rfl rfl ?_
  refine lv_dup hx hb dX1_init_19 rfl ?_
  refine xcN B hz hP hS (k_X4_init l E _ (k + 2) (lay1 h).2.1 sel_hd) (List.mem_of_getElem? (i := 3) rfl) lkc_X4 hl.1 (Nat.le_of_ble_eq_true rfl) ⟨Nat.le_of_ble_eq_true rfl, Nat.le_of_ble_eq_true rfl⟩ ⟨Nat.le_of_ble_eq_true rfl, Nat.le_of_ble_eq_true rfl⟩ dX1_init_20 (fun H locs hz hP hS => ?_)
  rw [ct_call (List.forall_mem_cons.mpr ⟨(show k < (k + 2) from (by omega)), fun _ h => absurd h List.not_mem_nil⟩) (by omega)] at hP
  have hz : H.size = E.2.1 + (k + 5) := hz
  have hP : va_P E.1 vwCl (wl E (k + 5) (ct E C k [(k, .inr (1, [.ref (E.2.1 + (k + 1)), .null, .null, .null, .int 0, .int 0, .int 0, .int 0, .int 0, .int 0, .int 0, .int 0, .int 0, .int 0, .int 0, .int 0, .int 0, .int 0]))])) H := hP
  refine W.cs (cells' := 4) (slots' := 27) rfl rfl ?_
  refine x_putF (ci := 1) tyX1 B hz hP hS in1 tyX1_ok nmX1 rfl (by omega) sel_hd 1 (by decide) rfl rfl mw_197 rfl hin rfl rfl (Nat.lt_of_lt_of_le (show 1 < 18 by decide) (Nat.le_of_ble_eq_true rfl)) dX1_init_23 (fun H locs hz hP hS => ?_)
  rw [ct_up0] at hP
  have hz : H.size = E.2.1 + (k + 5) := hz
  have hP : va_P E.1 vwCl (wl E (k + 5) (ct E C k [(k, .inr (1, [.ref (E.2.1 + (k + 1)), .ref (E.2.1 + (k + 2)), .null, .null, .int 0, .int 0, .int 0, .int 0, .int 0, .int 0, .int 0, .int 0, .int 0, .int 0, .int 0, .int 0, .int 0, .int 0]))])) H := hP
  refine lv_aload_n hx hb dX1_init_26 rfl (lv_at hl 0 rfl) ?_
  refine x_new (ci := 4) (fs := [.null, .null, .int 0, .int 0, .int 0, .int 0, .int 0, .int 0]) tyX4 B hz hP hS in4 tyX4_ok rfl mw_120 mw_121 mw_57 (by decide) (Nat.le_of_ble_eq_true rfl) (Nat.le_of_ble_eq_true rfl) dX1_init_27 (fun H hz hP hS => ?_)
  rw [ct_push] at hP
  have hz : H.size = E.2.1 + ((k + 5) + 1) := hz
  refine W.cs (cells' := 5) (slots' := 35) rfl rfl ?_
  refine lv_dup hx hb dX1_init_30 rfl ?_
  refine xcN B hz hP hS (k_X4_init l E _ (k + 5) (lay1 h).2.2.1 sel_hd) (List.mem_of_getElem? (i := 3) rfl) lkc_X4 hl.1 (Nat.le_of_ble_eq_true rfl) ⟨Nat.le_of_ble_eq_true rfl, Nat.le_of_ble_eq_true rfl⟩ ⟨Nat.le_of_ble_eq_true rfl, Nat.le_of_ble_eq_true rfl⟩ dX1_init_31 (fun H locs hz hP hS => ?_)
  rw [ct_call (List.forall_mem_cons.mpr ⟨(show k < (k + 5) from (by omega)), fun _ h => absurd h List.not_mem_nil⟩) (by omega)] at hP
  have hz : H.size = E.2.1 + (k + 8) := hz
  have hP : va_P E.1 vwCl (wl E (k + 8) (ct E C k [(k, .inr (1, [.ref (E.2.1 + (k + 1)), .ref (E.2.1 + (k + 2)), .null, .null, .int 0, .int 0, .int 0, .int 0, .int 0, .int 0, .int 0, .int 0, .int 0, .int 0, .int 0, .int 0, .int 0, .int 0]))])) H := hP
  refine W.cs (cells' := 7) (slots' := 51) rfl rfl ?_
  refine x_putF (ci := 1) tyX1 B hz hP hS in1 tyX1_ok nmX1 rfl (by omega) sel_hd 2 (by decide) rfl rfl mw_200 rfl hin rfl rfl (Nat.lt_of_lt_of_le (show 2 < 18 by decide) (Nat.le_of_ble_eq_true rfl)) dX1_init_34 (fun H locs hz hP hS => ?_)
  rw [ct_up0] at hP
  have hz : H.size = E.2.1 + (k + 8) := hz
  have hP : va_P E.1 vwCl (wl E (k + 8) (ct E C k [(k, .inr (1, [.ref (E.2.1 + (k + 1)), .ref (E.2.1 + (k + 2)), .ref (E.2.1 + (k + 5)), .null, .int 0, .int 0, .int 0, .int 0, .int 0, .int 0, .int 0, .int 0, .int 0, .int 0, .int 0, .int 0, .int 0, .int 0]))])) H := hP
  refine lv_aload_n hx hb dX1_init_37 rfl (lv_at hl 0 rfl) ?_
  refine x_new (ci := 0) (fs := [.int 0, .int 0, .int 0, .int 0, .int 0, .int 0]) tyX0 B hz hP hS in0 tyX0_ok rfl mw_160 mw_161 mw_58 (by decide) (Nat.le_of_ble_eq_true rfl) (Nat.le_of_ble_eq_true rfl) dX1_init_38 (fun H hz hP hS => ?_)
  rw [ct_push] at hP
  have hz : H.size = E.2.1 + ((k + 8) + 1) := hz
  refine W.cs (cells' := 8) (slots' := 57) rfl rfl ?_
  refine lv_dup hx hb dX1_init_41 rfl ?_
  refine xcN B hz hP hS (k_X0_init l E _ (k + 8) (lay1 h).2.2.2 sel_hd) (List.mem_of_getElem? (i := 4) rfl) lkc_X0 hl.1 (Nat.le_of_ble_eq_true rfl) ⟨Nat.le_of_ble_eq_true rfl, Nat.le_of_ble_eq_true rfl⟩ ⟨Nat.le_of_ble_eq_true rfl, Nat.le_of_ble_eq_true rfl⟩ dX1_init_42 (fun H locs hz hP hS => ?_)
  rw [ct_call (List.forall_mem_cons.mpr ⟨(show k < (k + 8) from (by omega)), fun _ h => absurd h List.not_mem_nil⟩) (by omega)] at hP
  have hz : H.size = E.2.1 + (k + 9) := hz
  have hP : va_P E.1 vwCl (wl E (k + 9) (ct E C k [(k, .inr (1, [.ref (E.2.1 + (k + 1)), .ref (E.2.1 + (k + 2)), .ref (E.2.1 + (k + 5)), .null, .int 0, .int 0, .int 0, .int 0, .int 0, .int 0, .int 0, .int 0, .int 0, .int 0, .int 0, .int 0, .int 0, .int 0]))])) H := hP
  refine W.cs (cells' := 8) (slots' := 57) rfl rfl ?_
  refine x_putF (ci := 1) tyX1 B hz hP hS in1 tyX1_ok nmX1 rfl (by omega) sel_hd 3 (by decide) rfl rfl mw_203 rfl hin rfl rfl (Nat.lt_of_lt_of_le (show 3 < 18 by decide) (Nat.le_of_ble_eq_true rfl)) dX1_init_45 (fun H locs hz hP hS => ?_)
  rw [ct_up0] at hP
  have hz : H.size = E.2.1 + (k + 9) := hz
  have hP : va_P E.1 vwCl (wl E (k + 9) (ct E C k [(k, .inr (1, [.ref (E.2.1 + (k + 1)), .ref (E.2.1 + (k + 2)), .ref (E.2.1 + (k + 5)), .ref (E.2.1 + (k + 8)), .int 0, .int 0, .int 0, .int 0, .int 0, .int 0, .int 0, .int 0, .int 0, .int 0, .int 0, .int 0, .int 0, .int 0]))])) H := hP
  have hP : va_P E.1 vwCl (wl E (k + 9) (fun j => if j < k then C j else hcc E j (r0 j))) H := by
    refine ct_end hP (List.forall_mem_cons.mpr ⟨(show k ≤ k from (by omega)), fun _ h => absurd h List.not_mem_nil⟩) (List.forall_mem_cons.mpr ⟨fun h0 => ?_, fun _ h => absurd h List.not_mem_nil⟩)
    · show va_at E.1 vwCl (E.2.1 + k, hcc E k (r0 k)) H
      rw [hcc1 _ _ h]
      have e : fl1 E k (r0 k) = [.ref (E.2.1 + (k + 1)), .ref (E.2.1 + (k + 2)), .ref (E.2.1 + (k + 5)), .ref (E.2.1 + (k + 8)), .int 0, .int 0, .int 0, .int 0, .int 0, .int 0, .int 0, .int 0, .int 0, .int 0, .int 0, .int 0, .int 0, .int 0] := by simp [fl1, r0, h, (show k ≠ 1078 from fun e => absurd (e ▸ h) (by decide +kernel))]
      rw [e]
      exact h0
  exact ret_c B hr hlk hz hP hS dX1_init_48

theorem lkc_X1 : LkC yX1_init cX1_init 1 := ⟨⟨mw_115, mw_56, mw_116⟩, rfl, by decide +kernel⟩
set_option maxHeartbeats 4000000 in
set_option maxRecDepth 100000 in
theorem k_X2_init (l : Launch) (E : hE) (C : Nat → va_E) (k : Nat) (h : hk k = 2) (hC : C k = .inr (2, [.null, .null, .null, .null, .null, .int 0, .int 0, .int 0, .int 0, .int 0, .int 0, .int 0, .int 0, .int 0, .int 0, .int 0, .int 0, .int 0, .int 0, .int 0])) : Met l yX2_init (.code yX2_init cX2_init 2 none :: gw_all) (rmc 3 41 357 120) (xPre E C (k + 1) [.ref (E.2.1 + k)]) (xQ E (k + 42) (fun j => if j < k then C j else hcc E j (r0 j))) 41 357 (hA E) := by
  refine entC (own := RX2) (by decide) rfl rfl (Nat.le_of_ble_eq_true rfl) ?_
  intro p e s m below meth c ls B hr hlk hin hl hz hP hS
  have hx := B.1.1
  have hb := B.1.2.1
  have hown := B.1.2.2.2.1
  have hts := B.1.2.2.2.2
  have hml := B.1.2.2.1
  have hk1 := hk_lt h (by decide)
  have hl : lv_has ls 2 [(0, .ref (E.2.1 + k))] := hl
  rw [ct_start hC] at hP
  refine lv_aload_n hx hb dX2_init_0 rfl (lv_at hl 0 rfl) ?_
  refine W.objInit hx hb hown (hts _ mw_83) (hts _ mw_69) (hts _ mw_70) rfl (by rw [hml]; exact hl.1) rfl dX2_init_1 (Nat.le_of_ble_eq_true rfl) (Nat.le_of_ble_eq_true rfl) ?_
  refine W.eq (g2 := F0 m 4 ls []) rfl ?_
  refine lv_aload_n hx hb dX2_init_4 rfl (lv_at hl 0 rfl) ?_
  refine x_new (ci := 3) (fs := [.int 0, .int 0, .int 0]) tyX3 B hz hP hS in3 tyX3_ok rfl mw_84 mw_85 mw_55 (by decide) (Nat.le_of_ble_eq_true rfl) (Nat.le_of_ble_eq_true rfl) dX2_init_5 (fun H hz hP hS => ?_)
  rw [ct_push] at hP
  have hz : H.size = E.2.1 + ((k + 1) + 1) := hz
  refine W.cs (cells' := 1) (slots' := 3) rfl rfl ?_
  refine lv_dup hx hb dX2_init_8 rfl ?_
  refine xcN B hz hP hS (k_X3_init l E _ (k + 1) (lay2 h).1 sel_hd) (List.mem_of_getElem? (i := 0) rfl) lkc_X3 hl.1 (Nat.le_of_ble_eq_true rfl) ⟨Nat.le_of_ble_eq_true rfl, Nat.le_of_ble_eq_true rfl⟩ ⟨Nat.le_of_ble_eq_true rfl, Nat.le_of_ble_eq_true rfl⟩ dX2_init_9 (fun H locs hz hP hS => ?_)
  rw [ct_call (List.forall_mem_cons.mpr ⟨(show k < (k + 1) from (by omega)), fun _ h => absurd h List.not_mem_nil⟩) (by omega)] at hP
  have hz : H.size = E.2.1 + (k + 2) := hz
  have hP : va_P E.1 vwCl (wl E (k + 2) (ct E C k [(k, .inr (2, [.null, .null, .null, .null, .null, .int 0, .int 0, .int 0, .int 0, .int 0, .int 0, .int 0, .int 0, .int 0, .int 0, .int 0, .int 0, .int 0, .int 0, .int 0]))])) H := hP
  refine W.cs (cells' := 1) (slots' := 3) rfl rfl ?_
  refine x_putF (ci := 2) tyX2 B hz hP hS in2 tyX2_ok nmX2 rfl (by omega) sel_hd 0 (by decide) rfl rfl mw_282 rfl hin rfl rfl (Nat.lt_of_lt_of_le (show 0 < 20 by decide) (Nat.le_of_ble_eq_true rfl)) dX2_init_12 (fun H locs hz hP hS => ?_)
  rw [ct_up0] at hP
  have hz : H.size = E.2.1 + (k + 2) := hz
  have hP : va_P E.1 vwCl (wl E (k + 2) (ct E C k [(k, .inr (2, [.ref (E.2.1 + (k + 1)), .null, .null, .null, .null, .int 0, .int 0, .int 0, .int 0, .int 0, .int 0, .int 0, .int 0, .int 0, .int 0, .int 0, .int 0, .int 0, .int 0, .int 0]))])) H := hP
  refine lv_aload_n hx hb dX2_init_15 rfl (lv_at hl 0 rfl) ?_
  refine lv_iconst (v := 4) hx hb dX2_init_16 (by decide) ?_
  refine x_arrI (n0 := 4) B hz hP hS mw_109 (by decide) (by decide) (Nat.le_of_ble_eq_true rfl) (Nat.le_of_ble_eq_true rfl) (Nat.le_of_ble_eq_true rfl) dX2_init_17 (fun H hz hP hS => ?_)
  rw [ct_arr (List.forall_mem_cons.mpr ⟨(show k < (k + 2) from (by omega)), fun _ h => absurd h List.not_mem_nil⟩) (by omega) (by rw [hcc8 _ _ (show hk (k + 2) = 8 from (lay2 h).2.1), show hlen (k + 2) = 4 from (lay2 h).2.2.1, r0_fn8 (show hk (k + 2) = 8 from (lay2 h).2.1) (by have := lay2l h; omega)])] at hP
  have hz : H.size = E.2.1 + (k + 3) := hz
  have hP : va_P E.1 vwCl (wl E (k + 3) (ct E C k [(k, .inr (2, [.ref (E.2.1 + (k + 1)), .null, .null, .null, .null, .int 0, .int 0, .int 0, .int 0, .int 0, .int 0, .int 0, .int 0, .int 0, .int 0, .int 0, .int 0, .int 0, .int 0, .int 0]))])) H := hP
  refine W.cs (cells' := 2) (slots' := 7) rfl rfl ?_
  refine x_putF (ci := 2) tyX2 B hz hP hS in2 tyX2_ok nmX2 rfl (by omega) sel_hd 1 (by decide) rfl rfl mw_285 rfl hin rfl rfl (Nat.lt_of_lt_of_le (show 1 < 20 by decide) (Nat.le_of_ble_eq_true rfl)) dX2_init_19 (fun H locs hz hP hS => ?_)
  rw [ct_up0] at hP
  have hz : H.size = E.2.1 + (k + 3) := hz
  have hP : va_P E.1 vwCl (wl E (k + 3) (ct E C k [(k, .inr (2, [.ref (E.2.1 + (k + 1)), .ref (E.2.1 + (k + 2)), .null, .null, .null, .int 0, .int 0, .int 0, .int 0, .int 0, .int 0, .int 0, .int 0, .int 0, .int 0, .int 0, .int 0, .int 0, .int 0, .int 0]))])) H := hP
  refine lv_aload_n hx hb dX2_init_22 rfl (lv_at hl 0 rfl) ?_
  refine lv_bipush (v := 23) hx hb dX2_init_23 (by decide) ?_
  refine x_arrI (n0 := 23) B hz hP hS mw_109 (by decide) (by decide) (Nat.le_of_ble_eq_true rfl) (Nat.le_of_ble_eq_true rfl) (Nat.le_of_ble_eq_true rfl) dX2_init_25 (fun H hz hP hS => ?_)
  rw [ct_arr (List.forall_mem_cons.mpr ⟨(show k < (k + 3) from (by omega)), fun _ h => absurd h List.not_mem_nil⟩) (by omega) (by rw [hcc8 _ _ (show hk (k + 3) = 8 from (lay2 h).2.2.2.1), show hlen (k + 3) = 23 from (lay2 h).2.2.2.2.1, r0_fn8 (show hk (k + 3) = 8 from (lay2 h).2.2.2.1) (by have := lay2l h; omega)])] at hP
  have hz : H.size = E.2.1 + (k + 4) := hz
  have hP : va_P E.1 vwCl (wl E (k + 4) (ct E C k [(k, .inr (2, [.ref (E.2.1 + (k + 1)), .ref (E.2.1 + (k + 2)), .null, .null, .null, .int 0, .int 0, .int 0, .int 0, .int 0, .int 0, .int 0, .int 0, .int 0, .int 0, .int 0, .int 0, .int 0, .int 0, .int 0]))])) H := hP
  refine W.cs (cells' := 3) (slots' := 30) rfl rfl ?_
  refine x_putF (ci := 2) tyX2 B hz hP hS in2 tyX2_ok nmX2 rfl (by omega) sel_hd 2 (by decide) rfl rfl mw_287 rfl hin rfl rfl (Nat.lt_of_lt_of_le (show 2 < 20 by decide) (Nat.le_of_ble_eq_true rfl)) dX2_init_27 (fun H locs hz hP hS => ?_)
  rw [ct_up0] at hP
  have hz : H.size = E.2.1 + (k + 4) := hz
  have hP : va_P E.1 vwCl (wl E (k + 4) (ct E C k [(k, .inr (2, [.ref (E.2.1 + (k + 1)), .ref (E.2.1 + (k + 2)), .ref (E.2.1 + (k + 3)), .null, .null, .int 0, .int 0, .int 0, .int 0, .int 0, .int 0, .int 0, .int 0, .int 0, .int 0, .int 0, .int 0, .int 0, .int 0, .int 0]))])) H := hP
  refine lv_aload_n hx hb dX2_init_30 rfl (lv_at hl 0 rfl) ?_
  refine lv_bipush (v := 23) hx hb dX2_init_31 (by decide) ?_
  refine x_arrI (n0 := 23) B hz hP hS mw_109 (by decide) (by decide) (Nat.le_of_ble_eq_true rfl) (Nat.le_of_ble_eq_true rfl) (Nat.le_of_ble_eq_true rfl) dX2_init_33 (fun H hz hP hS => ?_)
  rw [ct_arr (List.forall_mem_cons.mpr ⟨(show k < (k + 4) from (by omega)), fun _ h => absurd h List.not_mem_nil⟩) (by omega) (by rw [hcc8 _ _ (show hk (k + 4) = 8 from (lay2 h).2.2.2.2.2.1), show hlen (k + 4) = 23 from (lay2 h).2.2.2.2.2.2.1, r0_fn8 (show hk (k + 4) = 8 from (lay2 h).2.2.2.2.2.1) (by have := lay2l h; omega)])] at hP
  have hz : H.size = E.2.1 + (k + 5) := hz
  have hP : va_P E.1 vwCl (wl E (k + 5) (ct E C k [(k, .inr (2, [.ref (E.2.1 + (k + 1)), .ref (E.2.1 + (k + 2)), .ref (E.2.1 + (k + 3)), .null, .null, .int 0, .int 0, .int 0, .int 0, .int 0, .int 0, .int 0, .int 0, .int 0, .int 0, .int 0, .int 0, .int 0, .int 0, .int 0]))])) H := hP
  refine W.cs (cells' := 4) (slots' := 53) rfl rfl ?_
  refine x_putF (ci := 2) tyX2 B hz hP hS in2 tyX2_ok nmX2 rfl (by omega) sel_hd 3 (by decide) rfl rfl mw_289 rfl hin rfl rfl (Nat.lt_of_lt_of_le (show 3 < 20 by decide) (Nat.le_of_ble_eq_true rfl)) dX2_init_35 (fun H locs hz hP hS => ?_)
  rw [ct_up0] at hP
  have hz : H.size = E.2.1 + (k + 5) := hz
  have hP : va_P E.1 vwCl (wl E (k + 5) (ct E C k [(k, .inr (2, [.ref (E.2.1 + (k + 1)), .ref (E.2.1 + (k + 2)), .ref (E.2.1 + (k + 3)), .ref (E.2.1 + (k + 4)), .null, .int 0, .int 0, .int 0, .int 0, .int 0, .int 0, .int 0, .int 0, .int 0, .int 0, .int 0, .int 0, .int 0, .int 0, .int 0]))])) H := hP
  refine lv_aload_n hx hb dX2_init_38 rfl (lv_at hl 0 rfl) ?_
  refine lv_iconst (v := 4) hx hb dX2_init_39 (by decide) ?_
  refine x_arrQ (t0 := 2) (n0 := 4) B hz hP hS mw_110 B.2.2.2.1.1 rfl (by decide) (by decide) (Nat.le_of_ble_eq_true rfl) (Nat.le_of_ble_eq_true rfl) (Nat.le_of_ble_eq_true rfl) dX2_init_40 (fun H hz hP hS => ?_)
  rw [ct_push] at hP
  rw [ct_swap (by omega)] at hP
  have hz : H.size = E.2.1 + (k + 6) := hz
  have hP : va_P E.1 vwCl (wl E (k + 6) (ct E C k [(k, .inr (2, [.ref (E.2.1 + (k + 1)), .ref (E.2.1 + (k + 2)), .ref (E.2.1 + (k + 3)), .ref (E.2.1 + (k + 4)), .null, .int 0, .int 0, .int 0, .int 0, .int 0, .int 0, .int 0, .int 0, .int 0, .int 0, .int 0, .int 0, .int 0, .int 0, .int 0])), ((k + 5), .inl (E.2.2.1 2, 4, .inr (.inr (.inr (.inr (fun _ => none))))))])) H := hP
  refine W.cs (cells' := 5) (slots' := 57) rfl rfl ?_
  refine x_putF (ci := 2) tyX2 B hz hP hS in2 tyX2_ok nmX2 rfl (by omega) sel_hd 4 (by decide) rfl rfl mw_291 rfl hin rfl rfl (Nat.lt_of_lt_of_le (show 4 < 20 by decide) (Nat.le_of_ble_eq_true rfl)) dX2_init_43 (fun H locs hz hP hS => ?_)
  rw [ct_up0] at hP
  have hz : H.size = E.2.1 + (k + 6) := hz
  have hP : va_P E.1 vwCl (wl E (k + 6) (ct E C k [(k, .inr (2, [.ref (E.2.1 + (k + 1)), .ref (E.2.1 + (k + 2)), .ref (E.2.1 + (k + 3)), .ref (E.2.1 + (k + 4)), .ref (E.2.1 + (k + 5)), .int 0, .int 0, .int 0, .int 0, .int 0, .int 0, .int 0, .int 0, .int 0, .int 0, .int 0, .int 0, .int 0, .int 0, .int 0])), ((k + 5), .inl (E.2.2.1 2, 4, .inr (.inr (.inr (.inr (fun _ => none))))))])) H := hP
  refine lv_aload_n hx hb dX2_init_46 rfl (lv_at hl 0 rfl) ?_
  refine lv_iconst (v := (-1)) hx hb dX2_init_47 (by decide) ?_
  refine x_putI (ci := 2) tyX2 B hz hP hS in2 tyX2_ok nmX2 rfl (by omega) sel_hd 5 (by decide) rfl mw_294 rfl rfl rfl (Nat.lt_of_lt_of_le (show 5 < 20 by decide) (Nat.le_of_ble_eq_true rfl)) dX2_init_48 (fun H locs hz hP hS => ?_)
  rw [ct_up0] at hP
  have hz : H.size = E.2.1 + (k + 6) := hz
  have hP : va_P E.1 vwCl (wl E (k + 6) (ct E C k [(k, .inr (2, [.ref (E.2.1 + (k + 1)), .ref (E.2.1 + (k + 2)), .ref (E.2.1 + (k + 3)), .ref (E.2.1 + (k + 4)), .ref (E.2.1 + (k + 5)), .int (-1), .int 0, .int 0, .int 0, .int 0, .int 0, .int 0, .int 0, .int 0, .int 0, .int 0, .int 0, .int 0, .int 0, .int 0])), ((k + 5), .inl (E.2.2.1 2, 4, .inr (.inr (.inr (.inr (fun _ => none))))))])) H := hP
  refine lv_aload_n hx hb dX2_init_51 rfl (lv_at hl 0 rfl) ?_
  refine lv_iconst (v := 0) hx hb dX2_init_52 (by decide) ?_
  refine x_putI (ci := 2) tyX2 B hz hP hS in2 tyX2_ok nmX2 rfl (by omega) sel_hd 6 (by decide) rfl mw_297 rfl rfl rfl (Nat.lt_of_lt_of_le (show 6 < 20 by decide) (Nat.le_of_ble_eq_true rfl)) dX2_init_53 (fun H locs hz hP hS => ?_)
  rw [ct_up0] at hP
  have hz : H.size = E.2.1 + (k + 6) := hz
  have hP : va_P E.1 vwCl (wl E (k + 6) (ct E C k [(k, .inr (2, [.ref (E.2.1 + (k + 1)), .ref (E.2.1 + (k + 2)), .ref (E.2.1 + (k + 3)), .ref (E.2.1 + (k + 4)), .ref (E.2.1 + (k + 5)), .int (-1), .int 0, .int 0, .int 0, .int 0, .int 0, .int 0, .int 0, .int 0, .int 0, .int 0, .int 0, .int 0, .int 0, .int 0])), ((k + 5), .inl (E.2.2.1 2, 4, .inr (.inr (.inr (.inr (fun _ => none))))))])) H := hP
  refine lv_aload_n hx hb dX2_init_56 rfl (lv_at hl 0 rfl) ?_
  refine lv_ldc (v := 8388607) hx hb hown (hts _ mw_112) dX2_init_57 ?_
  refine x_putI (ci := 2) tyX2 B hz hP hS in2 tyX2_ok nmX2 rfl (by omega) sel_hd 7 (by decide) rfl mw_300 rfl rfl rfl (Nat.lt_of_lt_of_le (show 7 < 20 by decide) (Nat.le_of_ble_eq_true rfl)) dX2_init_59 (fun H locs hz hP hS => ?_)
  rw [ct_up0] at hP
  have hz : H.size = E.2.1 + (k + 6) := hz
  have hP : va_P E.1 vwCl (wl E (k + 6) (ct E C k [(k, .inr (2, [.ref (E.2.1 + (k + 1)), .ref (E.2.1 + (k + 2)), .ref (E.2.1 + (k + 3)), .ref (E.2.1 + (k + 4)), .ref (E.2.1 + (k + 5)), .int (-1), .int 0, .int 8388607, .int 0, .int 0, .int 0, .int 0, .int 0, .int 0, .int 0, .int 0, .int 0, .int 0, .int 0, .int 0])), ((k + 5), .inl (E.2.2.1 2, 4, .inr (.inr (.inr (.inr (fun _ => none))))))])) H := hP
  refine lv_aload_n hx hb dX2_init_62 rfl (lv_at hl 0 rfl) ?_
  refine lv_iconst (v := 0) hx hb dX2_init_63 (by decide) ?_
  refine x_putI (ci := 2) tyX2 B hz hP hS in2 tyX2_ok nmX2 rfl (by omega) sel_hd 8 (by decide) rfl mw_303 rfl rfl rfl (Nat.lt_of_lt_of_le (show 8 < 20 by decide) (Nat.le_of_ble_eq_true rfl)) dX2_init_64 (fun H locs hz hP hS => ?_)
  rw [ct_up0] at hP
  have hz : H.size = E.2.1 + (k + 6) := hz
  have hP : va_P E.1 vwCl (wl E (k + 6) (ct E C k [(k, .inr (2, [.ref (E.2.1 + (k + 1)), .ref (E.2.1 + (k + 2)), .ref (E.2.1 + (k + 3)), .ref (E.2.1 + (k + 4)), .ref (E.2.1 + (k + 5)), .int (-1), .int 0, .int 8388607, .int 0, .int 0, .int 0, .int 0, .int 0, .int 0, .int 0, .int 0, .int 0, .int 0, .int 0, .int 0])), ((k + 5), .inl (E.2.2.1 2, 4, .inr (.inr (.inr (.inr (fun _ => none))))))])) H := hP
  refine lv_aload_n hx hb dX2_init_67 rfl (lv_at hl 0 rfl) ?_
  refine lv_iconst (v := (-1)) hx hb dX2_init_68 (by decide) ?_
  refine x_putI (ci := 2) tyX2 B hz hP hS in2 tyX2_ok nmX2 rfl (by omega) sel_hd 9 (by decide) rfl mw_306 rfl rfl rfl (Nat.lt_of_lt_of_le (show 9 < 20 by decide) (Nat.le_of_ble_eq_true rfl)) dX2_init_69 (fun H locs hz hP hS => ?_)
  rw [ct_up0] at hP
  have hz : H.size = E.2.1 + (k + 6) := hz
  have hP : va_P E.1 vwCl (wl E (k + 6) (ct E C k [(k, .inr (2, [.ref (E.2.1 + (k + 1)), .ref (E.2.1 + (k + 2)), .ref (E.2.1 + (k + 3)), .ref (E.2.1 + (k + 4)), .ref (E.2.1 + (k + 5)), .int (-1), .int 0, .int 8388607, .int 0, .int (-1), .int 0, .int 0, .int 0, .int 0, .int 0, .int 0, .int 0, .int 0, .int 0, .int 0])), ((k + 5), .inl (E.2.2.1 2, 4, .inr (.inr (.inr (.inr (fun _ => none))))))])) H := hP
  refine lv_aload_n hx hb dX2_init_72 rfl (lv_at hl 0 rfl) ?_
  refine lv_iconst (v := 0) hx hb dX2_init_73 (by decide) ?_
  refine x_putI (ci := 2) tyX2 B hz hP hS in2 tyX2_ok nmX2 rfl (by omega) sel_hd 10 (by decide) rfl mw_308 rfl rfl rfl (Nat.lt_of_lt_of_le (show 10 < 20 by decide) (Nat.le_of_ble_eq_true rfl)) dX2_init_74 (fun H locs hz hP hS => ?_)
  rw [ct_up0] at hP
  have hz : H.size = E.2.1 + (k + 6) := hz
  have hP : va_P E.1 vwCl (wl E (k + 6) (ct E C k [(k, .inr (2, [.ref (E.2.1 + (k + 1)), .ref (E.2.1 + (k + 2)), .ref (E.2.1 + (k + 3)), .ref (E.2.1 + (k + 4)), .ref (E.2.1 + (k + 5)), .int (-1), .int 0, .int 8388607, .int 0, .int (-1), .int 0, .int 0, .int 0, .int 0, .int 0, .int 0, .int 0, .int 0, .int 0, .int 0])), ((k + 5), .inl (E.2.2.1 2, 4, .inr (.inr (.inr (.inr (fun _ => none))))))])) H := hP
  refine lv_aload_n hx hb dX2_init_77 rfl (lv_at hl 0 rfl) ?_
  refine lv_iconst (v := 0) hx hb dX2_init_78 (by decide) ?_
  refine x_putI (ci := 2) tyX2 B hz hP hS in2 tyX2_ok nmX2 rfl (by omega) sel_hd 11 (by decide) rfl mw_309 rfl rfl rfl (Nat.lt_of_lt_of_le (show 11 < 20 by decide) (Nat.le_of_ble_eq_true rfl)) dX2_init_79 (fun H locs hz hP hS => ?_)
  rw [ct_up0] at hP
  have hz : H.size = E.2.1 + (k + 6) := hz
  have hP : va_P E.1 vwCl (wl E (k + 6) (ct E C k [(k, .inr (2, [.ref (E.2.1 + (k + 1)), .ref (E.2.1 + (k + 2)), .ref (E.2.1 + (k + 3)), .ref (E.2.1 + (k + 4)), .ref (E.2.1 + (k + 5)), .int (-1), .int 0, .int 8388607, .int 0, .int (-1), .int 0, .int 0, .int 0, .int 0, .int 0, .int 0, .int 0, .int 0, .int 0, .int 0])), ((k + 5), .inl (E.2.2.1 2, 4, .inr (.inr (.inr (.inr (fun _ => none))))))])) H := hP
  refine lv_aload_n hx hb dX2_init_82 rfl (lv_at hl 0 rfl) ?_
  refine lv_iconst (v := 0) hx hb dX2_init_83 (by decide) ?_
  refine x_putI (ci := 2) tyX2 B hz hP hS in2 tyX2_ok nmX2 rfl (by omega) sel_hd 12 (by decide) rfl mw_312 rfl rfl rfl (Nat.lt_of_lt_of_le (show 12 < 20 by decide) (Nat.le_of_ble_eq_true rfl)) dX2_init_84 (fun H locs hz hP hS => ?_)
  rw [ct_up0] at hP
  have hz : H.size = E.2.1 + (k + 6) := hz
  have hP : va_P E.1 vwCl (wl E (k + 6) (ct E C k [(k, .inr (2, [.ref (E.2.1 + (k + 1)), .ref (E.2.1 + (k + 2)), .ref (E.2.1 + (k + 3)), .ref (E.2.1 + (k + 4)), .ref (E.2.1 + (k + 5)), .int (-1), .int 0, .int 8388607, .int 0, .int (-1), .int 0, .int 0, .int 0, .int 0, .int 0, .int 0, .int 0, .int 0, .int 0, .int 0])), ((k + 5), .inl (E.2.2.1 2, 4, .inr (.inr (.inr (.inr (fun _ => none))))))])) H := hP
  refine lv_aload_n hx hb dX2_init_87 rfl (lv_at hl 0 rfl) ?_
  refine lv_iconst (v := 0) hx hb dX2_init_88 (by decide) ?_
  refine x_putI (ci := 2) tyX2 B hz hP hS in2 tyX2_ok nmX2 rfl (by omega) sel_hd 13 (by decide) rfl mw_314 rfl rfl rfl (Nat.lt_of_lt_of_le (show 13 < 20 by decide) (Nat.le_of_ble_eq_true rfl)) dX2_init_89 (fun H locs hz hP hS => ?_)
  rw [ct_up0] at hP
  have hz : H.size = E.2.1 + (k + 6) := hz
  have hP : va_P E.1 vwCl (wl E (k + 6) (ct E C k [(k, .inr (2, [.ref (E.2.1 + (k + 1)), .ref (E.2.1 + (k + 2)), .ref (E.2.1 + (k + 3)), .ref (E.2.1 + (k + 4)), .ref (E.2.1 + (k + 5)), .int (-1), .int 0, .int 8388607, .int 0, .int (-1), .int 0, .int 0, .int 0, .int 0, .int 0, .int 0, .int 0, .int 0, .int 0, .int 0])), ((k + 5), .inl (E.2.2.1 2, 4, .inr (.inr (.inr (.inr (fun _ => none))))))])) H := hP
  refine lv_aload_n hx hb dX2_init_92 rfl (lv_at hl 0 rfl) ?_
  refine lv_iconst (v := 0) hx hb dX2_init_93 (by decide) ?_
  refine x_putI (ci := 2) tyX2 B hz hP hS in2 tyX2_ok nmX2 rfl (by omega) sel_hd 14 (by decide) rfl mw_316 rfl rfl rfl (Nat.lt_of_lt_of_le (show 14 < 20 by decide) (Nat.le_of_ble_eq_true rfl)) dX2_init_94 (fun H locs hz hP hS => ?_)
  rw [ct_up0] at hP
  have hz : H.size = E.2.1 + (k + 6) := hz
  have hP : va_P E.1 vwCl (wl E (k + 6) (ct E C k [(k, .inr (2, [.ref (E.2.1 + (k + 1)), .ref (E.2.1 + (k + 2)), .ref (E.2.1 + (k + 3)), .ref (E.2.1 + (k + 4)), .ref (E.2.1 + (k + 5)), .int (-1), .int 0, .int 8388607, .int 0, .int (-1), .int 0, .int 0, .int 0, .int 0, .int 0, .int 0, .int 0, .int 0, .int 0, .int 0])), ((k + 5), .inl (E.2.2.1 2, 4, .inr (.inr (.inr (.inr (fun _ => none))))))])) H := hP
  refine lv_aload_n hx hb dX2_init_97 rfl (lv_at hl 0 rfl) ?_
  refine lv_iconst (v := (-1)) hx hb dX2_init_98 (by decide) ?_
  refine x_putI (ci := 2) tyX2 B hz hP hS in2 tyX2_ok nmX2 rfl (by omega) sel_hd 15 (by decide) rfl mw_319 rfl rfl rfl (Nat.lt_of_lt_of_le (show 15 < 20 by decide) (Nat.le_of_ble_eq_true rfl)) dX2_init_99 (fun H locs hz hP hS => ?_)
  rw [ct_up0] at hP
  have hz : H.size = E.2.1 + (k + 6) := hz
  have hP : va_P E.1 vwCl (wl E (k + 6) (ct E C k [(k, .inr (2, [.ref (E.2.1 + (k + 1)), .ref (E.2.1 + (k + 2)), .ref (E.2.1 + (k + 3)), .ref (E.2.1 + (k + 4)), .ref (E.2.1 + (k + 5)), .int (-1), .int 0, .int 8388607, .int 0, .int (-1), .int 0, .int 0, .int 0, .int 0, .int 0, .int (-1), .int 0, .int 0, .int 0, .int 0])), ((k + 5), .inl (E.2.2.1 2, 4, .inr (.inr (.inr (.inr (fun _ => none))))))])) H := hP
  refine lv_aload_n hx hb dX2_init_102 rfl (lv_at hl 0 rfl) ?_
  refine lv_iconst (v := (-1)) hx hb dX2_init_103 (by decide) ?_
  refine x_putI (ci := 2) tyX2 B hz hP hS in2 tyX2_ok nmX2 rfl (by omega) sel_hd 16 (by decide) rfl mw_322 rfl rfl rfl (Nat.lt_of_lt_of_le (show 16 < 20 by decide) (Nat.le_of_ble_eq_true rfl)) dX2_init_104 (fun H locs hz hP hS => ?_)
  rw [ct_up0] at hP
  have hz : H.size = E.2.1 + (k + 6) := hz
  have hP : va_P E.1 vwCl (wl E (k + 6) (ct E C k [(k, .inr (2, [.ref (E.2.1 + (k + 1)), .ref (E.2.1 + (k + 2)), .ref (E.2.1 + (k + 3)), .ref (E.2.1 + (k + 4)), .ref (E.2.1 + (k + 5)), .int (-1), .int 0, .int 8388607, .int 0, .int (-1), .int 0, .int 0, .int 0, .int 0, .int 0, .int (-1), .int (-1), .int 0, .int 0, .int 0])), ((k + 5), .inl (E.2.2.1 2, 4, .inr (.inr (.inr (.inr (fun _ => none))))))])) H := hP
  refine lv_aload_n hx hb dX2_init_107 rfl (lv_at hl 0 rfl) ?_
  refine lv_iconst (v := (-1)) hx hb dX2_init_108 (by decide) ?_
  refine x_putI (ci := 2) tyX2 B hz hP hS in2 tyX2_ok nmX2 rfl (by omega) sel_hd 17 (by decide) rfl mw_324 rfl rfl rfl (Nat.lt_of_lt_of_le (show 17 < 20 by decide) (Nat.le_of_ble_eq_true rfl)) dX2_init_109 (fun H locs hz hP hS => ?_)
  rw [ct_up0] at hP
  have hz : H.size = E.2.1 + (k + 6) := hz
  have hP : va_P E.1 vwCl (wl E (k + 6) (ct E C k [(k, .inr (2, [.ref (E.2.1 + (k + 1)), .ref (E.2.1 + (k + 2)), .ref (E.2.1 + (k + 3)), .ref (E.2.1 + (k + 4)), .ref (E.2.1 + (k + 5)), .int (-1), .int 0, .int 8388607, .int 0, .int (-1), .int 0, .int 0, .int 0, .int 0, .int 0, .int (-1), .int (-1), .int (-1), .int 0, .int 0])), ((k + 5), .inl (E.2.2.1 2, 4, .inr (.inr (.inr (.inr (fun _ => none))))))])) H := hP
  refine lv_aload_n hx hb dX2_init_112 rfl (lv_at hl 0 rfl) ?_
  refine lv_iconst (v := (-1)) hx hb dX2_init_113 (by decide) ?_
  refine x_putI (ci := 2) tyX2 B hz hP hS in2 tyX2_ok nmX2 rfl (by omega) sel_hd 18 (by decide) rfl mw_326 rfl rfl rfl (Nat.lt_of_lt_of_le (show 18 < 20 by decide) (Nat.le_of_ble_eq_true rfl)) dX2_init_114 (fun H locs hz hP hS => ?_)
  rw [ct_up0] at hP
  have hz : H.size = E.2.1 + (k + 6) := hz
  have hP : va_P E.1 vwCl (wl E (k + 6) (ct E C k [(k, .inr (2, [.ref (E.2.1 + (k + 1)), .ref (E.2.1 + (k + 2)), .ref (E.2.1 + (k + 3)), .ref (E.2.1 + (k + 4)), .ref (E.2.1 + (k + 5)), .int (-1), .int 0, .int 8388607, .int 0, .int (-1), .int 0, .int 0, .int 0, .int 0, .int 0, .int (-1), .int (-1), .int (-1), .int (-1), .int 0])), ((k + 5), .inl (E.2.2.1 2, 4, .inr (.inr (.inr (.inr (fun _ => none))))))])) H := hP
  refine lv_aload_n hx hb dX2_init_117 rfl (lv_at hl 0 rfl) ?_
  refine lv_iconst (v := 0) hx hb dX2_init_118 (by decide) ?_
  refine x_putI (ci := 2) tyX2 B hz hP hS in2 tyX2_ok nmX2 rfl (by omega) sel_hd 19 (by decide) rfl mw_328 rfl rfl rfl (Nat.lt_of_lt_of_le (show 19 < 20 by decide) (Nat.le_of_ble_eq_true rfl)) dX2_init_119 (fun H locs hz hP hS => ?_)
  rw [ct_up0] at hP
  have hz : H.size = E.2.1 + (k + 6) := hz
  have hP : va_P E.1 vwCl (wl E (k + 6) (ct E C k [(k, .inr (2, [.ref (E.2.1 + (k + 1)), .ref (E.2.1 + (k + 2)), .ref (E.2.1 + (k + 3)), .ref (E.2.1 + (k + 4)), .ref (E.2.1 + (k + 5)), .int (-1), .int 0, .int 8388607, .int 0, .int (-1), .int 0, .int 0, .int 0, .int 0, .int 0, .int (-1), .int (-1), .int (-1), .int (-1), .int 0])), ((k + 5), .inl (E.2.2.1 2, 4, .inr (.inr (.inr (.inr (fun _ => none))))))])) H := hP
  refine lv_iconst (v := 0) hx hb dX2_init_122 (by decide) ?_
  refine lv_istore_n (lv' := [(1, .int 0), (0, .ref (E.2.1 + k))]) hx hb dX2_init_123 rfl hl (by decide) rfl (fun ls hl => ?_)
  refine lv_iload_n hx hb dX2_init_124 rfl (lv_at hl 0 rfl) ?_
  refine lv_iconst (v := 4) hx hb dX2_init_125 (by decide) ?_
  refine lv_icmp_ge (tgt := 148) hx hb dX2_init_126 (by decide) (fun c1 => absurd c1 (by decide)) (fun _ => ?_)
  refine lv_aload_n hx hb dX2_init_129 rfl (lv_at hl 1 rfl) ?_
  refine x_get (ci := 2) B hP in2 rfl (by omega) sel_hd 4 (by decide) rfl mw_291 rfl dX2_init_130 ?_
  refine lv_iload_n hx hb dX2_init_133 rfl (lv_at hl 0 rfl) ?_
  refine x_new (ci := 1) (fs := [.null, .null, .null, .null, .int 0, .int 0, .int 0, .int 0, .int 0, .int 0, .int 0, .int 0, .int 0, .int 0, .int 0, .int 0, .int 0, .int 0]) tyX1 B hz hP hS in1 tyX1_ok rfl mw_110 mw_113 mw_56 (by decide) (Nat.le_of_ble_eq_true rfl) (Nat.le_of_ble_eq_true rfl) dX2_init_134 (fun H hz hP hS => ?_)
  rw [ct_push] at hP
  have hz : H.size = E.2.1 + ((k + 6) + 1) := hz
  refine W.cs (cells' := 6) (slots' := 75) rfl rfl ?_
  refine lv_dup hx hb dX2_init_137 rfl ?_
  refine xcN B hz hP hS (k_X1_init l E _ (k + 6) (lay2 h).2.2.2.2.2.2.2.2.2.1 sel_hd) (List.mem_of_getElem? (i := 1) rfl) lkc_X1 hl.1 (Nat.le_of_ble_eq_true rfl) ⟨Nat.le_of_ble_eq_true rfl, Nat.le_of_ble_eq_true rfl⟩ ⟨Nat.le_of_ble_eq_true rfl, Nat.le_of_ble_eq_true rfl⟩ dX2_init_138 (fun H locs hz hP hS => ?_)
  rw [ct_call (List.forall_mem_cons.mpr ⟨(show k < (k + 6) from (by omega)), List.forall_mem_cons.mpr ⟨(show (k + 5) < (k + 6) from (by omega)), fun _ h => absurd h List.not_mem_nil⟩⟩) (by omega)] at hP
  have hz : H.size = E.2.1 + (k + 15) := hz
  have hP : va_P E.1 vwCl (wl E (k + 15) (ct E C k [(k, .inr (2, [.ref (E.2.1 + (k + 1)), .ref (E.2.1 + (k + 2)), .ref (E.2.1 + (k + 3)), .ref (E.2.1 + (k + 4)), .ref (E.2.1 + (k + 5)), .int (-1), .int 0, .int 8388607, .int 0, .int (-1), .int 0, .int 0, .int 0, .int 0, .int 0, .int (-1), .int (-1), .int (-1), .int (-1), .int 0])), ((k + 5), .inl (E.2.2.1 2, 4, .inr (.inr (.inr (.inr (fun _ => none))))))])) H := hP
  refine W.cs (cells' := 14) (slots' := 132) rfl rfl ?_
  refine x_aast (ci := 1) (t0 := 2) (i0 := 0) B hz hP hS (by omega) ((sel_tl (by omega)).trans sel_hd) rfl (by omega) ((sel_tl (by omega)).trans ((sel_tl (by omega)).trans ((if_neg (by omega)).trans (hcc1 _ _ (lay2 h).2.2.2.2.2.2.2.2.2.1)))) rfl rfl (by decide) (by decide) dX2_init_141 (fun H locs hz hP hS => ?_)
  rw [ct_up1 (by omega)] at hP
  have hz : H.size = E.2.1 + (k + 15) := hz
  have hP : va_P E.1 vwCl (wl E (k + 15) (ct E C k [(k, .inr (2, [.ref (E.2.1 + (k + 1)), .ref (E.2.1 + (k + 2)), .ref (E.2.1 + (k + 3)), .ref (E.2.1 + (k + 4)), .ref (E.2.1 + (k + 5)), .int (-1), .int 0, .int 8388607, .int 0, .int (-1), .int 0, .int 0, .int 0, .int 0, .int 0, .int (-1), .int (-1), .int (-1), .int (-1), .int 0])), ((k + 5), .inl (E.2.2.1 2, 4, .inr (.inr (.inr (.inr (va_up (fun _ => none) 0 (some (E.2.1 + (k + 6)))))))))])) H := hP
  refine lv_iinc (v := 1) (lv' := [(1, .int 1), (0, .ref (E.2.1 + k))]) hx hb dX2_init_142 hl (k := 0) rfl (by decide) (by decide) rfl (fun ls hl => ?_)
  refine lv_goto (tgt := 124) hx hb dX2_init_145 (by decide) ?_
  refine lv_iload_n hx hb dX2_init_124 rfl (lv_at hl 0 rfl) ?_
  refine lv_iconst (v := 4) hx hb dX2_init_125 (by decide) ?_
  refine lv_icmp_ge (tgt := 148) hx hb dX2_init_126 (by decide) (fun c2 => absurd c2 (by decide)) (fun _ => ?_)
  refine lv_aload_n hx hb dX2_init_129 rfl (lv_at hl 1 rfl) ?_
  refine x_get (ci := 2) B hP in2 rfl (by omega) sel_hd 4 (by decide) rfl mw_291 rfl dX2_init_130 ?_
  refine lv_iload_n hx hb dX2_init_133 rfl (lv_at hl 0 rfl) ?_
  refine x_new (ci := 1) (fs := [.null, .null, .null, .null, .int 0, .int 0, .int 0, .int 0, .int 0, .int 0, .int 0, .int 0, .int 0, .int 0, .int 0, .int 0, .int 0, .int 0]) tyX1 B hz hP hS in1 tyX1_ok rfl mw_110 mw_113 mw_56 (by decide) (Nat.le_of_ble_eq_true rfl) (Nat.le_of_ble_eq_true rfl) dX2_init_134 (fun H hz hP hS => ?_)
  rw [ct_push] at hP
  have hz : H.size = E.2.1 + ((k + 15) + 1) := hz
  refine W.cs (cells' := 15) (slots' := 150) rfl rfl ?_
  refine lv_dup hx hb dX2_init_137 rfl ?_
  refine xcN B hz hP hS (k_X1_init l E _ (k + 15) (lay2 h).2.2.2.2.2.2.2.2.2.2.1 sel_hd) (List.mem_of_getElem? (i := 1) rfl) lkc_X1 hl.1 (Nat.le_of_ble_eq_true rfl) ⟨Nat.le_of_ble_eq_true rfl, Nat.le_of_ble_eq_true rfl⟩ ⟨Nat.le_of_ble_eq_true rfl, Nat.le_of_ble_eq_true rfl⟩ dX2_init_138 (fun H locs hz hP hS => ?_)
  rw [ct_call (List.forall_mem_cons.mpr ⟨(show k < (k + 15) from (by omega)), List.forall_mem_cons.mpr ⟨(show (k + 5) < (k + 15) from (by omega)), fun _ h => absurd h List.not_mem_nil⟩⟩) (by omega)] at hP
  have hz : H.size = E.2.1 + (k + 24) := hz
  have hP : va_P E.1 vwCl (wl E (k + 24) (ct E C k [(k, .inr (2, [.ref (E.2.1 + (k + 1)), .ref (E.2.1 + (k + 2)), .ref (E.2.1 + (k + 3)), .ref (E.2.1 + (k + 4)), .ref (E.2.1 + (k + 5)), .int (-1), .int 0, .int 8388607, .int 0, .int (-1), .int 0, .int 0, .int 0, .int 0, .int 0, .int (-1), .int (-1), .int (-1), .int (-1), .int 0])), ((k + 5), .inl (E.2.2.1 2, 4, .inr (.inr (.inr (.inr (va_up (fun _ => none) 0 (some (E.2.1 + (k + 6)))))))))])) H := hP
  refine W.cs (cells' := 23) (slots' := 207) rfl rfl ?_
  refine x_aast (ci := 1) (t0 := 2) (i0 := 1) B hz hP hS (by omega) ((sel_tl (by omega)).trans sel_hd) rfl (by omega) ((sel_tl (by omega)).trans ((sel_tl (by omega)).trans ((if_neg (by omega)).trans (hcc1 _ _ (lay2 h).2.2.2.2.2.2.2.2.2.2.1)))) rfl rfl (by decide) (by decide) dX2_init_141 (fun H locs hz hP hS => ?_)
  rw [ct_up1 (by omega)] at hP
  have hz : H.size = E.2.1 + (k + 24) := hz
  have hP : va_P E.1 vwCl (wl E (k + 24) (ct E C k [(k, .inr (2, [.ref (E.2.1 + (k + 1)), .ref (E.2.1 + (k + 2)), .ref (E.2.1 + (k + 3)), .ref (E.2.1 + (k + 4)), .ref (E.2.1 + (k + 5)), .int (-1), .int 0, .int 8388607, .int 0, .int (-1), .int 0, .int 0, .int 0, .int 0, .int 0, .int (-1), .int (-1), .int (-1), .int (-1), .int 0])), ((k + 5), .inl (E.2.2.1 2, 4, .inr (.inr (.inr (.inr (va_up (va_up (fun _ => none) 0 (some (E.2.1 + (k + 6)))) 1 (some (E.2.1 + (k + 15)))))))))])) H := hP
  refine lv_iinc (v := 2) (lv' := [(1, .int 2), (0, .ref (E.2.1 + k))]) hx hb dX2_init_142 hl (k := 0) rfl (by decide) (by decide) rfl (fun ls hl => ?_)
  refine lv_goto (tgt := 124) hx hb dX2_init_145 (by decide) ?_
  refine lv_iload_n hx hb dX2_init_124 rfl (lv_at hl 0 rfl) ?_
  refine lv_iconst (v := 4) hx hb dX2_init_125 (by decide) ?_
  refine lv_icmp_ge (tgt := 148) hx hb dX2_init_126 (by decide) (fun c3 => absurd c3 (by decide)) (fun _ => ?_)
  refine lv_aload_n hx hb dX2_init_129 rfl (lv_at hl 1 rfl) ?_
  refine x_get (ci := 2) B hP in2 rfl (by omega) sel_hd 4 (by decide) rfl mw_291 rfl dX2_init_130 ?_
  refine lv_iload_n hx hb dX2_init_133 rfl (lv_at hl 0 rfl) ?_
  refine x_new (ci := 1) (fs := [.null, .null, .null, .null, .int 0, .int 0, .int 0, .int 0, .int 0, .int 0, .int 0, .int 0, .int 0, .int 0, .int 0, .int 0, .int 0, .int 0]) tyX1 B hz hP hS in1 tyX1_ok rfl mw_110 mw_113 mw_56 (by decide) (Nat.le_of_ble_eq_true rfl) (Nat.le_of_ble_eq_true rfl) dX2_init_134 (fun H hz hP hS => ?_)
  rw [ct_push] at hP
  have hz : H.size = E.2.1 + ((k + 24) + 1) := hz
  refine W.cs (cells' := 24) (slots' := 225) rfl rfl ?_
  refine lv_dup hx hb dX2_init_137 rfl ?_
  refine xcN B hz hP hS (k_X1_init l E _ (k + 24) (lay2 h).2.2.2.2.2.2.2.2.2.2.2.1 sel_hd) (List.mem_of_getElem? (i := 1) rfl) lkc_X1 hl.1 (Nat.le_of_ble_eq_true rfl) ⟨Nat.le_of_ble_eq_true rfl, Nat.le_of_ble_eq_true rfl⟩ ⟨Nat.le_of_ble_eq_true rfl, Nat.le_of_ble_eq_true rfl⟩ dX2_init_138 (fun H locs hz hP hS => ?_)
  rw [ct_call (List.forall_mem_cons.mpr ⟨(show k < (k + 24) from (by omega)), List.forall_mem_cons.mpr ⟨(show (k + 5) < (k + 24) from (by omega)), fun _ h => absurd h List.not_mem_nil⟩⟩) (by omega)] at hP
  have hz : H.size = E.2.1 + (k + 33) := hz
  have hP : va_P E.1 vwCl (wl E (k + 33) (ct E C k [(k, .inr (2, [.ref (E.2.1 + (k + 1)), .ref (E.2.1 + (k + 2)), .ref (E.2.1 + (k + 3)), .ref (E.2.1 + (k + 4)), .ref (E.2.1 + (k + 5)), .int (-1), .int 0, .int 8388607, .int 0, .int (-1), .int 0, .int 0, .int 0, .int 0, .int 0, .int (-1), .int (-1), .int (-1), .int (-1), .int 0])), ((k + 5), .inl (E.2.2.1 2, 4, .inr (.inr (.inr (.inr (va_up (va_up (fun _ => none) 0 (some (E.2.1 + (k + 6)))) 1 (some (E.2.1 + (k + 15)))))))))])) H := hP
  refine W.cs (cells' := 32) (slots' := 282) rfl rfl ?_
  refine x_aast (ci := 1) (t0 := 2) (i0 := 2) B hz hP hS (by omega) ((sel_tl (by omega)).trans sel_hd) rfl (by omega) ((sel_tl (by omega)).trans ((sel_tl (by omega)).trans ((if_neg (by omega)).trans (hcc1 _ _ (lay2 h).2.2.2.2.2.2.2.2.2.2.2.1)))) rfl rfl (by decide) (by decide) dX2_init_141 (fun H locs hz hP hS => ?_)
  rw [ct_up1 (by omega)] at hP
  have hz : H.size = E.2.1 + (k + 33) := hz
  have hP : va_P E.1 vwCl (wl E (k + 33) (ct E C k [(k, .inr (2, [.ref (E.2.1 + (k + 1)), .ref (E.2.1 + (k + 2)), .ref (E.2.1 + (k + 3)), .ref (E.2.1 + (k + 4)), .ref (E.2.1 + (k + 5)), .int (-1), .int 0, .int 8388607, .int 0, .int (-1), .int 0, .int 0, .int 0, .int 0, .int 0, .int (-1), .int (-1), .int (-1), .int (-1), .int 0])), ((k + 5), .inl (E.2.2.1 2, 4, .inr (.inr (.inr (.inr (va_up (va_up (va_up (fun _ => none) 0 (some (E.2.1 + (k + 6)))) 1 (some (E.2.1 + (k + 15)))) 2 (some (E.2.1 + (k + 24)))))))))])) H := hP
  refine lv_iinc (v := 3) (lv' := [(1, .int 3), (0, .ref (E.2.1 + k))]) hx hb dX2_init_142 hl (k := 0) rfl (by decide) (by decide) rfl (fun ls hl => ?_)
  refine lv_goto (tgt := 124) hx hb dX2_init_145 (by decide) ?_
  refine lv_iload_n hx hb dX2_init_124 rfl (lv_at hl 0 rfl) ?_
  refine lv_iconst (v := 4) hx hb dX2_init_125 (by decide) ?_
  refine lv_icmp_ge (tgt := 148) hx hb dX2_init_126 (by decide) (fun c4 => absurd c4 (by decide)) (fun _ => ?_)
  refine lv_aload_n hx hb dX2_init_129 rfl (lv_at hl 1 rfl) ?_
  refine x_get (ci := 2) B hP in2 rfl (by omega) sel_hd 4 (by decide) rfl mw_291 rfl dX2_init_130 ?_
  refine lv_iload_n hx hb dX2_init_133 rfl (lv_at hl 0 rfl) ?_
  refine x_new (ci := 1) (fs := [.null, .null, .null, .null, .int 0, .int 0, .int 0, .int 0, .int 0, .int 0, .int 0, .int 0, .int 0, .int 0, .int 0, .int 0, .int 0, .int 0]) tyX1 B hz hP hS in1 tyX1_ok rfl mw_110 mw_113 mw_56 (by decide) (Nat.le_of_ble_eq_true rfl) (Nat.le_of_ble_eq_true rfl) dX2_init_134 (fun H hz hP hS => ?_)
  rw [ct_push] at hP
  have hz : H.size = E.2.1 + ((k + 33) + 1) := hz
  refine W.cs (cells' := 33) (slots' := 300) rfl rfl ?_
  refine lv_dup hx hb dX2_init_137 rfl ?_
  refine xcN B hz hP hS (k_X1_init l E _ (k + 33) (lay2 h).2.2.2.2.2.2.2.2.2.2.2.2 sel_hd) (List.mem_of_getElem? (i := 1) rfl) lkc_X1 hl.1 (Nat.le_of_ble_eq_true rfl) ⟨Nat.le_of_ble_eq_true rfl, Nat.le_of_ble_eq_true rfl⟩ ⟨Nat.le_of_ble_eq_true rfl, Nat.le_of_ble_eq_true rfl⟩ dX2_init_138 (fun H locs hz hP hS => ?_)
  rw [ct_call (List.forall_mem_cons.mpr ⟨(show k < (k + 33) from (by omega)), List.forall_mem_cons.mpr ⟨(show (k + 5) < (k + 33) from (by omega)), fun _ h => absurd h List.not_mem_nil⟩⟩) (by omega)] at hP
  have hz : H.size = E.2.1 + (k + 42) := hz
  have hP : va_P E.1 vwCl (wl E (k + 42) (ct E C k [(k, .inr (2, [.ref (E.2.1 + (k + 1)), .ref (E.2.1 + (k + 2)), .ref (E.2.1 + (k + 3)), .ref (E.2.1 + (k + 4)), .ref (E.2.1 + (k + 5)), .int (-1), .int 0, .int 8388607, .int 0, .int (-1), .int 0, .int 0, .int 0, .int 0, .int 0, .int (-1), .int (-1), .int (-1), .int (-1), .int 0])), ((k + 5), .inl (E.2.2.1 2, 4, .inr (.inr (.inr (.inr (va_up (va_up (va_up (fun _ => none) 0 (some (E.2.1 + (k + 6)))) 1 (some (E.2.1 + (k + 15)))) 2 (some (E.2.1 + (k + 24)))))))))])) H := hP
  refine W.cs (cells' := 41) (slots' := 357) rfl rfl ?_
  refine x_aast (ci := 1) (t0 := 2) (i0 := 3) B hz hP hS (by omega) ((sel_tl (by omega)).trans sel_hd) rfl (by omega) ((sel_tl (by omega)).trans ((sel_tl (by omega)).trans ((if_neg (by omega)).trans (hcc1 _ _ (lay2 h).2.2.2.2.2.2.2.2.2.2.2.2)))) rfl rfl (by decide) (by decide) dX2_init_141 (fun H locs hz hP hS => ?_)
  rw [ct_up1 (by omega)] at hP
  have hz : H.size = E.2.1 + (k + 42) := hz
  have hP : va_P E.1 vwCl (wl E (k + 42) (ct E C k [(k, .inr (2, [.ref (E.2.1 + (k + 1)), .ref (E.2.1 + (k + 2)), .ref (E.2.1 + (k + 3)), .ref (E.2.1 + (k + 4)), .ref (E.2.1 + (k + 5)), .int (-1), .int 0, .int 8388607, .int 0, .int (-1), .int 0, .int 0, .int 0, .int 0, .int 0, .int (-1), .int (-1), .int (-1), .int (-1), .int 0])), ((k + 5), .inl (E.2.2.1 2, 4, .inr (.inr (.inr (.inr (va_up (va_up (va_up (va_up (fun _ => none) 0 (some (E.2.1 + (k + 6)))) 1 (some (E.2.1 + (k + 15)))) 2 (some (E.2.1 + (k + 24)))) 3 (some (E.2.1 + (k + 33)))))))))])) H := hP
  refine lv_iinc (v := 4) (lv' := [(1, .int 4), (0, .ref (E.2.1 + k))]) hx hb dX2_init_142 hl (k := 0) rfl (by decide) (by decide) rfl (fun ls hl => ?_)
  refine lv_goto (tgt := 124) hx hb dX2_init_145 (by decide) ?_
  refine lv_iload_n hx hb dX2_init_124 rfl (lv_at hl 0 rfl) ?_
  refine lv_iconst (v := 4) hx hb dX2_init_125 (by decide) ?_
  refine lv_icmp_ge (tgt := 148) hx hb dX2_init_126 (by decide) (fun _ => ?_) (fun c5 => absurd c5 (by decide))
  have hP : va_P E.1 vwCl (wl E (k + 42) (fun j => if j < k then C j else hcc E j (r0 j))) H := by
    refine ct_end hP (List.forall_mem_cons.mpr ⟨(show k ≤ k from (by omega)), List.forall_mem_cons.mpr ⟨(show k ≤ (k + 5) from (by omega)), fun _ h => absurd h List.not_mem_nil⟩⟩) (List.forall_mem_cons.mpr ⟨fun h0 => ?_, List.forall_mem_cons.mpr ⟨fun h0 => ?_, fun _ h => absurd h List.not_mem_nil⟩⟩)
    · show va_at E.1 vwCl (E.2.1 + k, hcc E k (r0 k)) H
      rw [hcc2 _ _ h]
      have e : fl2 E k (r0 k) = [.ref (E.2.1 + (k + 1)), .ref (E.2.1 + (k + 2)), .ref (E.2.1 + (k + 3)), .ref (E.2.1 + (k + 4)), .ref (E.2.1 + (k + 5)), .int (-1), .int 0, .int 8388607, .int 0, .int (-1), .int 0, .int 0, .int 0, .int 0, .int 0, .int (-1), .int (-1), .int (-1), .int (-1), .int 0] := by simp [fl2, r0, h]
      rw [e]
      exact h0
    · show va_at E.1 vwCl (E.2.1 + (k + 5), hcc E (k + 5) (r0 (k + 5))) H
      rw [hcc10 _ _ (lay2 h).2.2.2.2.2.2.2.1, (lay2 h).2.2.2.2.2.2.2.2.1]
      refine va_at_q (fun i hi => ?_) h0
      rcases (show i = 0 ∨ i = 1 ∨ i = 2 ∨ i = 3 by omega) with rfl | rfl | rfl | rfl
      · show _ = some (E.2.1 + (r0 (k + 5) 0).toNatClampNeg); rw [r0_link (lay2 h).2.2.2.2.2.2.2.1, nI_clamp (by omega)]; rfl
      · show _ = some (E.2.1 + (r0 (k + 5) 1).toNatClampNeg); rw [r0_link (lay2 h).2.2.2.2.2.2.2.1, nI_clamp (by omega)]; rfl
      · show _ = some (E.2.1 + (r0 (k + 5) 2).toNatClampNeg); rw [r0_link (lay2 h).2.2.2.2.2.2.2.1, nI_clamp (by omega)]; rfl
      · show _ = some (E.2.1 + (r0 (k + 5) 3).toNatClampNeg); rw [r0_link (lay2 h).2.2.2.2.2.2.2.1, nI_clamp (by omega)]; rfl
  exact ret_c B hr hlk hz hP hS dX2_init_148

theorem lkc_X2 : LkC yX2_init cX2_init 2 := ⟨⟨mw_81, mw_54, mw_82⟩, rfl, by decide +kernel⟩
set_option maxHeartbeats 4000000 in
set_option maxRecDepth 100000 in
theorem k_X5_init (l : Launch) (E : hE) (C : Nat → va_E) (k : Nat) (h : hk k = 5) (hC : C k = .inr (5, [.null, .null, .null, .null, .int 0, .int 0, .int 0, .int 0, .int 0, .int 0])) : Met l yX5_init (.code yX5_init cX5_init 2 none :: gw_all) (rmc 4 88 794 160) (xPre E C (k + 1) [.ref (E.2.1 + k)]) (xQ E (k + 89) (fun j => if j < k then C j else hcc E j (r0 j))) 88 794 (hA E) := by
  refine entC (own := RX5) (by decide) rfl rfl (Nat.le_of_ble_eq_true rfl) ?_
  intro p e s m below meth c ls B hr hlk hin hl hz hP hS
  have hx := B.1.1
  have hb := B.1.2.1
  have hown := B.1.2.2.2.1
  have hts := B.1.2.2.2.2
  have hml := B.1.2.2.1
  have hk1 := hk_lt h (by decide)
  have hl : lv_has ls 2 [(0, .ref (E.2.1 + k))] := hl
  rw [ct_start hC] at hP
  refine lv_aload_n hx hb dX5_init_0 rfl (lv_at hl 0 rfl) ?_
  refine W.objInit hx hb hown (hts _ mw_76) (hts _ mw_69) (hts _ mw_70) rfl (by rw [hml]; exact hl.1) rfl dX5_init_1 (Nat.le_of_ble_eq_true rfl) (Nat.le_of_ble_eq_true rfl) ?_
  refine W.eq (g2 := F0 m 4 ls []) rfl ?_
  refine lv_aload_n hx hb dX5_init_4 rfl (lv_at hl 0 rfl) ?_
  refine lv_bipush (v := 6) hx hb dX5_init_5 (by decide) ?_
  refine x_arrI (n0 := 6) B hz hP hS mw_109 (by decide) (by decide) (Nat.le_of_ble_eq_true rfl) (Nat.le_of_ble_eq_true rfl) (Nat.le_of_ble_eq_true rfl) dX5_init_7 (fun H hz hP hS => ?_)
  rw [ct_arr (List.forall_mem_cons.mpr ⟨(show k < (k + 1) from (by omega)), fun _ h => absurd h List.not_mem_nil⟩) (by omega) (by rw [hcc8 _ _ (show hk (k + 1) = 8 from (lay5 h).1), show hlen (k + 1) = 6 from (lay5 h).2.1, r0_fn8 (show hk (k + 1) = 8 from (lay5 h).1) (by have := lay5l h; omega)])] at hP
  have hz : H.size = E.2.1 + (k + 2) := hz
  have hP : va_P E.1 vwCl (wl E (k + 2) (ct E C k [(k, .inr (5, [.null, .null, .null, .null, .int 0, .int 0, .int 0, .int 0, .int 0, .int 0]))])) H := hP
  refine W.cs (cells' := 1) (slots' := 6) rfl rfl ?_
  refine x_putF (ci := 5) tyX5 B hz hP hS in5 tyX5_ok nmX5 rfl (by omega) sel_hd 0 (by decide) rfl rfl mw_371 rfl hin rfl rfl (Nat.lt_of_lt_of_le (show 0 < 10 by decide) (Nat.le_of_ble_eq_true rfl)) dX5_init_9 (fun H locs hz hP hS => ?_)
  rw [ct_up0] at hP
  have hz : H.size = E.2.1 + (k + 2) := hz
  have hP : va_P E.1 vwCl (wl E (k + 2) (ct E C k [(k, .inr (5, [.ref (E.2.1 + (k + 1)), .null, .null, .null, .int 0, .int 0, .int 0, .int 0, .int 0, .int 0]))])) H := hP
  refine lv_aload_n hx hb dX5_init_12 rfl (lv_at hl 0 rfl) ?_
  refine lv_bipush (v := 23) hx hb dX5_init_13 (by decide) ?_
  refine x_arrI (n0 := 23) B hz hP hS mw_109 (by decide) (by decide) (Nat.le_of_ble_eq_true rfl) (Nat.le_of_ble_eq_true rfl) (Nat.le_of_ble_eq_true rfl) dX5_init_15 (fun H hz hP hS => ?_)
  rw [ct_arr (List.forall_mem_cons.mpr ⟨(show k < (k + 2) from (by omega)), fun _ h => absurd h List.not_mem_nil⟩) (by omega) (by rw [hcc8 _ _ (show hk (k + 2) = 8 from (lay5 h).2.2.1), show hlen (k + 2) = 23 from (lay5 h).2.2.2.1, r0_fn8 (show hk (k + 2) = 8 from (lay5 h).2.2.1) (by have := lay5l h; omega)])] at hP
  have hz : H.size = E.2.1 + (k + 3) := hz
  have hP : va_P E.1 vwCl (wl E (k + 3) (ct E C k [(k, .inr (5, [.ref (E.2.1 + (k + 1)), .null, .null, .null, .int 0, .int 0, .int 0, .int 0, .int 0, .int 0]))])) H := hP
  refine W.cs (cells' := 2) (slots' := 29) rfl rfl ?_
  refine x_putF (ci := 5) tyX5 B hz hP hS in5 tyX5_ok nmX5 rfl (by omega) sel_hd 1 (by decide) rfl rfl mw_373 rfl hin rfl rfl (Nat.lt_of_lt_of_le (show 1 < 10 by decide) (Nat.le_of_ble_eq_true rfl)) dX5_init_17 (fun H locs hz hP hS => ?_)
  rw [ct_up0] at hP
  have hz : H.size = E.2.1 + (k + 3) := hz
  have hP : va_P E.1 vwCl (wl E (k + 3) (ct E C k [(k, .inr (5, [.ref (E.2.1 + (k + 1)), .ref (E.2.1 + (k + 2)), .null, .null, .int 0, .int 0, .int 0, .int 0, .int 0, .int 0]))])) H := hP
  refine lv_aload_n hx hb dX5_init_20 rfl (lv_at hl 0 rfl) ?_
  refine lv_bipush (v := 9) hx hb dX5_init_21 (by decide) ?_
  refine x_arrI (n0 := 9) B hz hP hS mw_109 (by decide) (by decide) (Nat.le_of_ble_eq_true rfl) (Nat.le_of_ble_eq_true rfl) (Nat.le_of_ble_eq_true rfl) dX5_init_23 (fun H hz hP hS => ?_)
  rw [ct_arr (List.forall_mem_cons.mpr ⟨(show k < (k + 3) from (by omega)), fun _ h => absurd h List.not_mem_nil⟩) (by omega) (by rw [hcc8 _ _ (show hk (k + 3) = 8 from (lay5 h).2.2.2.2.1), show hlen (k + 3) = 9 from (lay5 h).2.2.2.2.2.1, r0_fn8 (show hk (k + 3) = 8 from (lay5 h).2.2.2.2.1) (by have := lay5l h; omega)])] at hP
  have hz : H.size = E.2.1 + (k + 4) := hz
  have hP : va_P E.1 vwCl (wl E (k + 4) (ct E C k [(k, .inr (5, [.ref (E.2.1 + (k + 1)), .ref (E.2.1 + (k + 2)), .null, .null, .int 0, .int 0, .int 0, .int 0, .int 0, .int 0]))])) H := hP
  refine W.cs (cells' := 3) (slots' := 38) rfl rfl ?_
  refine x_putF (ci := 5) tyX5 B hz hP hS in5 tyX5_ok nmX5 rfl (by omega) sel_hd 2 (by decide) rfl rfl mw_375 rfl hin rfl rfl (Nat.lt_of_lt_of_le (show 2 < 10 by decide) (Nat.le_of_ble_eq_true rfl)) dX5_init_25 (fun H locs hz hP hS => ?_)
  rw [ct_up0] at hP
  have hz : H.size = E.2.1 + (k + 4) := hz
  have hP : va_P E.1 vwCl (wl E (k + 4) (ct E C k [(k, .inr (5, [.ref (E.2.1 + (k + 1)), .ref (E.2.1 + (k + 2)), .ref (E.2.1 + (k + 3)), .null, .int 0, .int 0, .int 0, .int 0, .int 0, .int 0]))])) H := hP
  refine lv_aload_n hx hb dX5_init_28 rfl (lv_at hl 0 rfl) ?_
  refine lv_iconst (v := 2) hx hb dX5_init_29 (by decide) ?_
  refine x_arrQ (t0 := 3) (n0 := 2) B hz hP hS mw_77 B.2.2.2.1.2.1 rfl (by decide) (by decide) (Nat.le_of_ble_eq_true rfl) (Nat.le_of_ble_eq_true rfl) (Nat.le_of_ble_eq_true rfl) dX5_init_30 (fun H hz hP hS => ?_)
  rw [ct_push] at hP
  rw [ct_swap (by omega)] at hP
  have hz : H.size = E.2.1 + (k + 5) := hz
  have hP : va_P E.1 vwCl (wl E (k + 5) (ct E C k [(k, .inr (5, [.ref (E.2.1 + (k + 1)), .ref (E.2.1 + (k + 2)), .ref (E.2.1 + (k + 3)), .null, .int 0, .int 0, .int 0, .int 0, .int 0, .int 0])), ((k + 4), .inl (E.2.2.1 3, 2, .inr (.inr (.inr (.inr (fun _ => none))))))])) H := hP
  refine W.cs (cells' := 4) (slots' := 40) rfl rfl ?_
  refine x_putF (ci := 5) tyX5 B hz hP hS in5 tyX5_ok nmX5 rfl (by omega) sel_hd 3 (by decide) rfl rfl mw_377 rfl hin rfl rfl (Nat.lt_of_lt_of_le (show 3 < 10 by decide) (Nat.le_of_ble_eq_true rfl)) dX5_init_33 (fun H locs hz hP hS => ?_)
  rw [ct_up0] at hP
  have hz : H.size = E.2.1 + (k + 5) := hz
  have hP : va_P E.1 vwCl (wl E (k + 5) (ct E C k [(k, .inr (5, [.ref (E.2.1 + (k + 1)), .ref (E.2.1 + (k + 2)), .ref (E.2.1 + (k + 3)), .ref (E.2.1 + (k + 4)), .int 0, .int 0, .int 0, .int 0, .int 0, .int 0])), ((k + 4), .inl (E.2.2.1 3, 2, .inr (.inr (.inr (.inr (fun _ => none))))))])) H := hP
  refine lv_aload_n hx hb dX5_init_36 rfl (lv_at hl 0 rfl) ?_
  refine lv_iconst (v := 0) hx hb dX5_init_37 (by decide) ?_
  refine x_putI (ci := 5) tyX5 B hz hP hS in5 tyX5_ok nmX5 rfl (by omega) sel_hd 4 (by decide) rfl mw_379 rfl rfl rfl (Nat.lt_of_lt_of_le (show 4 < 10 by decide) (Nat.le_of_ble_eq_true rfl)) dX5_init_38 (fun H locs hz hP hS => ?_)
  rw [ct_up0] at hP
  have hz : H.size = E.2.1 + (k + 5) := hz
  have hP : va_P E.1 vwCl (wl E (k + 5) (ct E C k [(k, .inr (5, [.ref (E.2.1 + (k + 1)), .ref (E.2.1 + (k + 2)), .ref (E.2.1 + (k + 3)), .ref (E.2.1 + (k + 4)), .int 0, .int 0, .int 0, .int 0, .int 0, .int 0])), ((k + 4), .inl (E.2.2.1 3, 2, .inr (.inr (.inr (.inr (fun _ => none))))))])) H := hP
  refine lv_aload_n hx hb dX5_init_41 rfl (lv_at hl 0 rfl) ?_
  refine lv_iconst (v := 0) hx hb dX5_init_42 (by decide) ?_
  refine x_putI (ci := 5) tyX5 B hz hP hS in5 tyX5_ok nmX5 rfl (by omega) sel_hd 5 (by decide) rfl mw_381 rfl rfl rfl (Nat.lt_of_lt_of_le (show 5 < 10 by decide) (Nat.le_of_ble_eq_true rfl)) dX5_init_43 (fun H locs hz hP hS => ?_)
  rw [ct_up0] at hP
  have hz : H.size = E.2.1 + (k + 5) := hz
  have hP : va_P E.1 vwCl (wl E (k + 5) (ct E C k [(k, .inr (5, [.ref (E.2.1 + (k + 1)), .ref (E.2.1 + (k + 2)), .ref (E.2.1 + (k + 3)), .ref (E.2.1 + (k + 4)), .int 0, .int 0, .int 0, .int 0, .int 0, .int 0])), ((k + 4), .inl (E.2.2.1 3, 2, .inr (.inr (.inr (.inr (fun _ => none))))))])) H := hP
  refine lv_aload_n hx hb dX5_init_46 rfl (lv_at hl 0 rfl) ?_
  refine lv_iconst (v := 1) hx hb dX5_init_47 (by decide) ?_
  refine x_putI (ci := 5) tyX5 B hz hP hS in5 tyX5_ok nmX5 rfl (by omega) sel_hd 6 (by decide) rfl mw_383 rfl rfl rfl (Nat.lt_of_lt_of_le (show 6 < 10 by decide) (Nat.le_of_ble_eq_true rfl)) dX5_init_48 (fun H locs hz hP hS => ?_)
  rw [ct_up0] at hP
  have hz : H.size = E.2.1 + (k + 5) := hz
  have hP : va_P E.1 vwCl (wl E (k + 5) (ct E C k [(k, .inr (5, [.ref (E.2.1 + (k + 1)), .ref (E.2.1 + (k + 2)), .ref (E.2.1 + (k + 3)), .ref (E.2.1 + (k + 4)), .int 0, .int 0, .int 1, .int 0, .int 0, .int 0])), ((k + 4), .inl (E.2.2.1 3, 2, .inr (.inr (.inr (.inr (fun _ => none))))))])) H := hP
  refine lv_aload_n hx hb dX5_init_51 rfl (lv_at hl 0 rfl) ?_
  refine lv_bipush (v := 16) hx hb dX5_init_52 (by decide) ?_
  refine x_putI (ci := 5) tyX5 B hz hP hS in5 tyX5_ok nmX5 rfl (by omega) sel_hd 7 (by decide) rfl mw_385 rfl rfl rfl (Nat.lt_of_lt_of_le (show 7 < 10 by decide) (Nat.le_of_ble_eq_true rfl)) dX5_init_54 (fun H locs hz hP hS => ?_)
  rw [ct_up0] at hP
  have hz : H.size = E.2.1 + (k + 5) := hz
  have hP : va_P E.1 vwCl (wl E (k + 5) (ct E C k [(k, .inr (5, [.ref (E.2.1 + (k + 1)), .ref (E.2.1 + (k + 2)), .ref (E.2.1 + (k + 3)), .ref (E.2.1 + (k + 4)), .int 0, .int 0, .int 1, .int 16, .int 0, .int 0])), ((k + 4), .inl (E.2.2.1 3, 2, .inr (.inr (.inr (.inr (fun _ => none))))))])) H := hP
  refine lv_aload_n hx hb dX5_init_57 rfl (lv_at hl 0 rfl) ?_
  refine lv_iconst (v := 2) hx hb dX5_init_58 (by decide) ?_
  refine x_putI (ci := 5) tyX5 B hz hP hS in5 tyX5_ok nmX5 rfl (by omega) sel_hd 8 (by decide) rfl mw_387 rfl rfl rfl (Nat.lt_of_lt_of_le (show 8 < 10 by decide) (Nat.le_of_ble_eq_true rfl)) dX5_init_59 (fun H locs hz hP hS => ?_)
  rw [ct_up0] at hP
  have hz : H.size = E.2.1 + (k + 5) := hz
  have hP : va_P E.1 vwCl (wl E (k + 5) (ct E C k [(k, .inr (5, [.ref (E.2.1 + (k + 1)), .ref (E.2.1 + (k + 2)), .ref (E.2.1 + (k + 3)), .ref (E.2.1 + (k + 4)), .int 0, .int 0, .int 1, .int 16, .int 2, .int 0])), ((k + 4), .inl (E.2.2.1 3, 2, .inr (.inr (.inr (.inr (fun _ => none))))))])) H := hP
  refine lv_aload_n hx hb dX5_init_62 rfl (lv_at hl 0 rfl) ?_
  refine lv_iconst (v := 0) hx hb dX5_init_63 (by decide) ?_
  refine x_putI (ci := 5) tyX5 B hz hP hS in5 tyX5_ok nmX5 rfl (by omega) sel_hd 9 (by decide) rfl mw_389 rfl rfl rfl (Nat.lt_of_lt_of_le (show 9 < 10 by decide) (Nat.le_of_ble_eq_true rfl)) dX5_init_64 (fun H locs hz hP hS => ?_)
  rw [ct_up0] at hP
  have hz : H.size = E.2.1 + (k + 5) := hz
  have hP : va_P E.1 vwCl (wl E (k + 5) (ct E C k [(k, .inr (5, [.ref (E.2.1 + (k + 1)), .ref (E.2.1 + (k + 2)), .ref (E.2.1 + (k + 3)), .ref (E.2.1 + (k + 4)), .int 0, .int 0, .int 1, .int 16, .int 2, .int 0])), ((k + 4), .inl (E.2.2.1 3, 2, .inr (.inr (.inr (.inr (fun _ => none))))))])) H := hP
  refine lv_iconst (v := 0) hx hb dX5_init_67 (by decide) ?_
  refine lv_istore_n (lv' := [(1, .int 0), (0, .ref (E.2.1 + k))]) hx hb dX5_init_68 rfl hl (by decide) rfl (fun ls hl => ?_)
  refine lv_iload_n hx hb dX5_init_69 rfl (lv_at hl 0 rfl) ?_
  refine lv_iconst (v := 2) hx hb dX5_init_70 (by decide) ?_
  refine lv_icmp_ge (tgt := 93) hx hb dX5_init_71 (by decide) (fun c1 => absurd c1 (by decide)) (fun _ => ?_)
  refine lv_aload_n hx hb dX5_init_74 rfl (lv_at hl 1 rfl) ?_
  refine x_get (ci := 5) B hP in5 rfl (by omega) sel_hd 3 (by decide) rfl mw_377 rfl dX5_init_75 ?_
  refine lv_iload_n hx hb dX5_init_78 rfl (lv_at hl 0 rfl) ?_
  refine x_new (ci := 2) (fs := [.null, .null, .null, .null, .null, .int 0, .int 0, .int 0, .int 0, .int 0, .int 0, .int 0, .int 0, .int 0, .int 0, .int 0, .int 0, .int 0, .int 0, .int 0]) tyX2 B hz hP hS in2 tyX2_ok rfl mw_77 mw_79 mw_54 (by decide) (Nat.le_of_ble_eq_true rfl) (Nat.le_of_ble_eq_true rfl) dX5_init_79 (fun H hz hP hS => ?_)
  rw [ct_push] at hP
  have hz : H.size = E.2.1 + ((k + 5) + 1) := hz
  refine W.cs (cells' := 5) (slots' := 60) rfl rfl ?_
  refine lv_dup hx hb dX5_init_82 rfl ?_
  refine xcI B hz hP hS (k_X2_init l E _ (k + 5) (lay5 h).2.2.2.2.2.2.2.2.1 sel_hd) mw_80 lkc_X2 hl.1 (Nat.le_of_ble_eq_true rfl) ⟨Nat.le_of_ble_eq_true rfl, Nat.le_of_ble_eq_true rfl⟩ ⟨Nat.le_of_ble_eq_true rfl, Nat.le_of_ble_eq_true rfl⟩ dX5_init_83 (fun H locs hz hP hS => ?_)
  rw [ct_call (List.forall_mem_cons.mpr ⟨(show k < (k + 5) from (by omega)), List.forall_mem_cons.mpr ⟨(show (k + 4) < (k + 5) from (by omega)), fun _ h => absurd h List.not_mem_nil⟩⟩) (by omega)] at hP
  have hz : H.size = E.2.1 + (k + 47) := hz
  have hP : va_P E.1 vwCl (wl E (k + 47) (ct E C k [(k, .inr (5, [.ref (E.2.1 + (k + 1)), .ref (E.2.1 + (k + 2)), .ref (E.2.1 + (k + 3)), .ref (E.2.1 + (k + 4)), .int 0, .int 0, .int 1, .int 16, .int 2, .int 0])), ((k + 4), .inl (E.2.2.1 3, 2, .inr (.inr (.inr (.inr (fun _ => none))))))])) H := hP
  refine W.cs (cells' := 46) (slots' := 417) rfl rfl ?_
  refine x_aast (ci := 2) (t0 := 3) (i0 := 0) B hz hP hS (by omega) ((sel_tl (by omega)).trans sel_hd) rfl (by omega) ((sel_tl (by omega)).trans ((sel_tl (by omega)).trans ((if_neg (by omega)).trans (hcc2 _ _ (lay5 h).2.2.2.2.2.2.2.2.1)))) rfl rfl (by decide) (by decide) dX5_init_86 (fun H locs hz hP hS => ?_)
  rw [ct_up1 (by omega)] at hP
  have hz : H.size = E.2.1 + (k + 47) := hz
  have hP : va_P E.1 vwCl (wl E (k + 47) (ct E C k [(k, .inr (5, [.ref (E.2.1 + (k + 1)), .ref (E.2.1 + (k + 2)), .ref (E.2.1 + (k + 3)), .ref (E.2.1 + (k + 4)), .int 0, .int 0, .int 1, .int 16, .int 2, .int 0])), ((k + 4), .inl (E.2.2.1 3, 2, .inr (.inr (.inr (.inr (va_up (fun _ => none) 0 (some (E.2.1 + (k + 5)))))))))])) H := hP
  refine lv_iinc (v := 1) (lv' := [(1, .int 1), (0, .ref (E.2.1 + k))]) hx hb dX5_init_87 hl (k := 0) rfl (by decide) (by decide) rfl (fun ls hl => ?_)
  refine lv_goto (tgt := 69) hx hb dX5_init_90 (by decide) ?_
  refine lv_iload_n hx hb dX5_init_69 rfl (lv_at hl 0 rfl) ?_
  refine lv_iconst (v := 2) hx hb dX5_init_70 (by decide) ?_
  refine lv_icmp_ge (tgt := 93) hx hb dX5_init_71 (by decide) (fun c2 => absurd c2 (by decide)) (fun _ => ?_)
  refine lv_aload_n hx hb dX5_init_74 rfl (lv_at hl 1 rfl) ?_
  refine x_get (ci := 5) B hP in5 rfl (by omega) sel_hd 3 (by decide) rfl mw_377 rfl dX5_init_75 ?_
  refine lv_iload_n hx hb dX5_init_78 rfl (lv_at hl 0 rfl) ?_
  refine x_new (ci := 2) (fs := [.null, .null, .null, .null, .null, .int 0, .int 0, .int 0, .int 0, .int 0, .int 0, .int 0, .int 0, .int 0, .int 0, .int 0, .int 0, .int 0, .int 0, .int 0]) tyX2 B hz hP hS in2 tyX2_ok rfl mw_77 mw_79 mw_54 (by decide) (Nat.le_of_ble_eq_true rfl) (Nat.le_of_ble_eq_true rfl) dX5_init_79 (fun H hz hP hS => ?_)
  rw [ct_push] at hP
  have hz : H.size = E.2.1 + ((k + 47) + 1) := hz
  refine W.cs (cells' := 47) (slots' := 437) rfl rfl ?_
  refine lv_dup hx hb dX5_init_82 rfl ?_
  refine xcI B hz hP hS (k_X2_init l E _ (k + 47) (lay5 h).2.2.2.2.2.2.2.2.2 sel_hd) mw_80 lkc_X2 hl.1 (Nat.le_of_ble_eq_true rfl) ⟨Nat.le_of_ble_eq_true rfl, Nat.le_of_ble_eq_true rfl⟩ ⟨Nat.le_of_ble_eq_true rfl, Nat.le_of_ble_eq_true rfl⟩ dX5_init_83 (fun H locs hz hP hS => ?_)
  rw [ct_call (List.forall_mem_cons.mpr ⟨(show k < (k + 47) from (by omega)), List.forall_mem_cons.mpr ⟨(show (k + 4) < (k + 47) from (by omega)), fun _ h => absurd h List.not_mem_nil⟩⟩) (by omega)] at hP
  have hz : H.size = E.2.1 + (k + 89) := hz
  have hP : va_P E.1 vwCl (wl E (k + 89) (ct E C k [(k, .inr (5, [.ref (E.2.1 + (k + 1)), .ref (E.2.1 + (k + 2)), .ref (E.2.1 + (k + 3)), .ref (E.2.1 + (k + 4)), .int 0, .int 0, .int 1, .int 16, .int 2, .int 0])), ((k + 4), .inl (E.2.2.1 3, 2, .inr (.inr (.inr (.inr (va_up (fun _ => none) 0 (some (E.2.1 + (k + 5)))))))))])) H := hP
  refine W.cs (cells' := 88) (slots' := 794) rfl rfl ?_
  refine x_aast (ci := 2) (t0 := 3) (i0 := 1) B hz hP hS (by omega) ((sel_tl (by omega)).trans sel_hd) rfl (by omega) ((sel_tl (by omega)).trans ((sel_tl (by omega)).trans ((if_neg (by omega)).trans (hcc2 _ _ (lay5 h).2.2.2.2.2.2.2.2.2)))) rfl rfl (by decide) (by decide) dX5_init_86 (fun H locs hz hP hS => ?_)
  rw [ct_up1 (by omega)] at hP
  have hz : H.size = E.2.1 + (k + 89) := hz
  have hP : va_P E.1 vwCl (wl E (k + 89) (ct E C k [(k, .inr (5, [.ref (E.2.1 + (k + 1)), .ref (E.2.1 + (k + 2)), .ref (E.2.1 + (k + 3)), .ref (E.2.1 + (k + 4)), .int 0, .int 0, .int 1, .int 16, .int 2, .int 0])), ((k + 4), .inl (E.2.2.1 3, 2, .inr (.inr (.inr (.inr (va_up (va_up (fun _ => none) 0 (some (E.2.1 + (k + 5)))) 1 (some (E.2.1 + (k + 47)))))))))])) H := hP
  refine lv_iinc (v := 2) (lv' := [(1, .int 2), (0, .ref (E.2.1 + k))]) hx hb dX5_init_87 hl (k := 0) rfl (by decide) (by decide) rfl (fun ls hl => ?_)
  refine lv_goto (tgt := 69) hx hb dX5_init_90 (by decide) ?_
  refine lv_iload_n hx hb dX5_init_69 rfl (lv_at hl 0 rfl) ?_
  refine lv_iconst (v := 2) hx hb dX5_init_70 (by decide) ?_
  refine lv_icmp_ge (tgt := 93) hx hb dX5_init_71 (by decide) (fun _ => ?_) (fun c3 => absurd c3 (by decide))
  have hP : va_P E.1 vwCl (wl E (k + 89) (fun j => if j < k then C j else hcc E j (r0 j))) H := by
    refine ct_end hP (List.forall_mem_cons.mpr ⟨(show k ≤ k from (by omega)), List.forall_mem_cons.mpr ⟨(show k ≤ (k + 4) from (by omega)), fun _ h => absurd h List.not_mem_nil⟩⟩) (List.forall_mem_cons.mpr ⟨fun h0 => ?_, List.forall_mem_cons.mpr ⟨fun h0 => ?_, fun _ h => absurd h List.not_mem_nil⟩⟩)
    · show va_at E.1 vwCl (E.2.1 + k, hcc E k (r0 k)) H
      rw [hcc5 _ _ h]
      have e : fl5 E k (r0 k) = [.ref (E.2.1 + (k + 1)), .ref (E.2.1 + (k + 2)), .ref (E.2.1 + (k + 3)), .ref (E.2.1 + (k + 4)), .int 0, .int 0, .int 1, .int 16, .int 2, .int 0] := by simp [fl5, r0, h]
      rw [e]
      exact h0
    · show va_at E.1 vwCl (E.2.1 + (k + 4), hcc E (k + 4) (r0 (k + 4))) H
      rw [hcc11 _ _ (lay5 h).2.2.2.2.2.2.1, (lay5 h).2.2.2.2.2.2.2.1]
      refine va_at_q (fun i hi => ?_) h0
      rcases (show i = 0 ∨ i = 1 by omega) with rfl | rfl
      · rfl
      · rfl
  exact ret_c B hr hlk hz hP hS dX5_init_93

theorem lkc_X5 : LkC yX5_init cX5_init 2 := ⟨⟨mw_74, mw_53, mw_75⟩, rfl, by decide +kernel⟩
set_option maxHeartbeats 4000000 in
set_option maxRecDepth 100000 in
theorem k_X6_init (l : Launch) (E : hE) (C : Nat → va_E) (hC : C 0 = .inr (6, [.null, .null, .null, .null, .null, .null, .int 0, .int 0, .null, .int 0, .null, .null])) : Met l yX6_init (.code yX6_init cX6_init 2 none :: gw_all) (rmc 5 1075 10761 200) (xPre E C (0 + 1) [.ref (E.2.1 + 0)]) (xQ E (0 + 1076) (fun j => if j < 0 then C j else hcc E j (r0 j))) 1075 10761 (hA E) := by
  refine entC (own := RX6) (by decide) rfl rfl (Nat.le_of_ble_eq_true rfl) ?_
  intro p e s m below meth c ls B hr hlk hin hl hz hP hS
  have hx := B.1.1
  have hb := B.1.2.1
  have hown := B.1.2.2.2.1
  have hts := B.1.2.2.2.2
  have hml := B.1.2.2.1
  have hl : lv_has ls 2 [(0, .ref (E.2.1 + 0))] := hl
  rw [ct_start hC] at hP
  refine lv_aload_n hx hb dX6_init_0 rfl (lv_at hl 0 rfl) ?_
  refine W.objInit hx hb hown (hts _ mw_68) (hts _ mw_69) (hts _ mw_70) rfl (by rw [hml]; exact hl.1) rfl dX6_init_1 (Nat.le_of_ble_eq_true rfl) (Nat.le_of_ble_eq_true rfl) ?_
  refine W.eq (g2 := F0 m 4 ls []) rfl ?_
  refine lv_aload_n hx hb dX6_init_4 rfl (lv_at hl 0 rfl) ?_
  refine x_new (ci := 5) (fs := [.null, .null, .null, .null, .int 0, .int 0, .int 0, .int 0, .int 0, .int 0]) tyX5 B hz hP hS in5 tyX5_ok rfl mw_71 mw_72 mw_53 (by decide) (Nat.le_of_ble_eq_true rfl) (Nat.le_of_ble_eq_true rfl) dX6_init_5 (fun H hz hP hS => ?_)
  rw [ct_push] at hP
  have hz : H.size = E.2.1 + (1 + 1) := hz
  refine W.cs (cells' := 1) (slots' := 10) rfl rfl ?_
  refine lv_dup hx hb dX6_init_8 rfl ?_
  refine xcI B hz hP hS (k_X5_init l E _ 1 (by decide +kernel) sel_hd) mw_73 lkc_X5 hl.1 (Nat.le_of_ble_eq_true rfl) ⟨Nat.le_of_ble_eq_true rfl, Nat.le_of_ble_eq_true rfl⟩ ⟨Nat.le_of_ble_eq_true rfl, Nat.le_of_ble_eq_true rfl⟩ dX6_init_9 (fun H locs hz hP hS => ?_)
  rw [ct_call (List.forall_mem_cons.mpr ⟨(show 0 < 1 from (by decide)), fun _ h => absurd h List.not_mem_nil⟩) (by decide)] at hP
  have hz : H.size = E.2.1 + 90 := hz
  have hP : va_P E.1 vwCl (wl E 90 (ct E C 0 [(0, .inr (6, [.null, .null, .null, .null, .null, .null, .int 0, .int 0, .null, .int 0, .null, .null]))])) H := hP
  refine W.cs (cells' := 89) (slots' := 804) rfl rfl ?_
  refine x_putF (ci := 6) tyX6 B hz hP hS in6 tyX6_ok nmX6 rfl (by decide) sel_hd 0 (by decide) rfl rfl mw_412 rfl hin rfl rfl (Nat.lt_of_lt_of_le (show 0 < 12 by decide) (Nat.le_of_ble_eq_true rfl)) dX6_init_12 (fun H locs hz hP hS => ?_)
  rw [ct_up0] at hP
  have hz : H.size = E.2.1 + 90 := hz
  have hP : va_P E.1 vwCl (wl E 90 (ct E C 0 [(0, .inr (6, [.ref (E.2.1 + 1), .null, .null, .null, .null, .null, .int 0, .int 0, .null, .int 0, .null, .null]))])) H := hP
  refine lv_aload_n hx hb dX6_init_15 rfl (lv_at hl 0 rfl) ?_
  refine x_new (ci := 5) (fs := [.null, .null, .null, .null, .int 0, .int 0, .int 0, .int 0, .int 0, .int 0]) tyX5 B hz hP hS in5 tyX5_ok rfl mw_71 mw_72 mw_53 (by decide) (Nat.le_of_ble_eq_true rfl) (Nat.le_of_ble_eq_true rfl) dX6_init_16 (fun H hz hP hS => ?_)
  rw [ct_push] at hP
  have hz : H.size = E.2.1 + (90 + 1) := hz
  refine W.cs (cells' := 90) (slots' := 814) rfl rfl ?_
  refine lv_dup hx hb dX6_init_19 rfl ?_
  refine xcI B hz hP hS (k_X5_init l E _ 90 (by decide +kernel) sel_hd) mw_73 lkc_X5 hl.1 (Nat.le_of_ble_eq_true rfl) ⟨Nat.le_of_ble_eq_true rfl, Nat.le_of_ble_eq_true rfl⟩ ⟨Nat.le_of_ble_eq_true rfl, Nat.le_of_ble_eq_true rfl⟩ dX6_init_20 (fun H locs hz hP hS => ?_)
  rw [ct_call (List.forall_mem_cons.mpr ⟨(show 0 < 90 from (by decide)), fun _ h => absurd h List.not_mem_nil⟩) (by decide)] at hP
  have hz : H.size = E.2.1 + 179 := hz
  have hP : va_P E.1 vwCl (wl E 179 (ct E C 0 [(0, .inr (6, [.ref (E.2.1 + 1), .null, .null, .null, .null, .null, .int 0, .int 0, .null, .int 0, .null, .null]))])) H := hP
  refine W.cs (cells' := 178) (slots' := 1608) rfl rfl ?_
  refine x_putF (ci := 6) tyX6 B hz hP hS in6 tyX6_ok nmX6 rfl (by decide) sel_hd 1 (by decide) rfl rfl mw_413 rfl hin rfl rfl (Nat.lt_of_lt_of_le (show 1 < 12 by decide) (Nat.le_of_ble_eq_true rfl)) dX6_init_23 (fun H locs hz hP hS => ?_)
  rw [ct_up0] at hP
  have hz : H.size = E.2.1 + 179 := hz
  have hP : va_P E.1 vwCl (wl E 179 (ct E C 0 [(0, .inr (6, [.ref (E.2.1 + 1), .ref (E.2.1 + 90), .null, .null, .null, .null, .int 0, .int 0, .null, .int 0, .null, .null]))])) H := hP
  refine lv_aload_n hx hb dX6_init_26 rfl (lv_at hl 0 rfl) ?_
  refine lv_iconst (v := 2) hx hb dX6_init_27 (by decide) ?_
  refine x_arrQ (t0 := 4) (n0 := 2) B hz hP hS mw_71 B.2.2.2.1.2.2 rfl (by decide) (by decide) (Nat.le_of_ble_eq_true rfl) (Nat.le_of_ble_eq_true rfl) (Nat.le_of_ble_eq_true rfl) dX6_init_28 (fun H hz hP hS => ?_)
  rw [ct_push] at hP
  rw [ct_swap (by decide)] at hP
  have hz : H.size = E.2.1 + 180 := hz
  have hP : va_P E.1 vwCl (wl E 180 (ct E C 0 [(0, .inr (6, [.ref (E.2.1 + 1), .ref (E.2.1 + 90), .null, .null, .null, .null, .int 0, .int 0, .null, .int 0, .null, .null])), (179, .inl (E.2.2.1 4, 2, .inr (.inr (.inr (.inr (fun _ => none))))))])) H := hP
  refine W.cs (cells' := 179) (slots' := 1610) rfl rfl ?_
  refine x_putF (ci := 6) tyX6 B hz hP hS in6 tyX6_ok nmX6 rfl (by decide) sel_hd 2 (by decide) rfl rfl mw_414 rfl hin rfl rfl (Nat.lt_of_lt_of_le (show 2 < 12 by decide) (Nat.le_of_ble_eq_true rfl)) dX6_init_31 (fun H locs hz hP hS => ?_)
  rw [ct_up0] at hP
  have hz : H.size = E.2.1 + 180 := hz
  have hP : va_P E.1 vwCl (wl E 180 (ct E C 0 [(0, .inr (6, [.ref (E.2.1 + 1), .ref (E.2.1 + 90), .ref (E.2.1 + 179), .null, .null, .null, .int 0, .int 0, .null, .int 0, .null, .null])), (179, .inl (E.2.2.1 4, 2, .inr (.inr (.inr (.inr (fun _ => none))))))])) H := hP
  refine lv_aload_n hx hb dX6_init_34 rfl (lv_at hl 0 rfl) ?_
  refine lv_iconst (v := 2) hx hb dX6_init_35 (by decide) ?_
  refine x_arrZ (n0 := 2) B hz hP hS mw_449 (by decide) (by decide) (Nat.le_of_ble_eq_true rfl) (Nat.le_of_ble_eq_true rfl) (Nat.le_of_ble_eq_true rfl) dX6_init_36 (fun H hz hP hS => ?_)
  rw [ct_arr (List.forall_mem_cons.mpr ⟨(show 0 < 180 from (by decide)), List.forall_mem_cons.mpr ⟨(show 179 < 180 from (by decide)), fun _ h => absurd h List.not_mem_nil⟩⟩) (by decide) (by rw [hcc9 _ _ (show hk 180 = 9 from (by decide +kernel)), show hlen 180 = 2 from (by decide +kernel), r0_fn9 (show hk 180 = 9 from (by decide +kernel)) (by decide)])] at hP
  have hz : H.size = E.2.1 + 181 := hz
  have hP : va_P E.1 vwCl (wl E 181 (ct E C 0 [(0, .inr (6, [.ref (E.2.1 + 1), .ref (E.2.1 + 90), .ref (E.2.1 + 179), .null, .null, .null, .int 0, .int 0, .null, .int 0, .null, .null])), (179, .inl (E.2.2.1 4, 2, .inr (.inr (.inr (.inr (fun _ => none))))))])) H := hP
  refine W.cs (cells' := 180) (slots' := 1612) rfl rfl ?_
  refine x_putF (ci := 6) tyX6 B hz hP hS in6 tyX6_ok nmX6 rfl (by decide) sel_hd 3 (by decide) rfl rfl mw_415 rfl hin rfl rfl (Nat.lt_of_lt_of_le (show 3 < 12 by decide) (Nat.le_of_ble_eq_true rfl)) dX6_init_38 (fun H locs hz hP hS => ?_)
  rw [ct_up0] at hP
  have hz : H.size = E.2.1 + 181 := hz
  have hP : va_P E.1 vwCl (wl E 181 (ct E C 0 [(0, .inr (6, [.ref (E.2.1 + 1), .ref (E.2.1 + 90), .ref (E.2.1 + 179), .ref (E.2.1 + 180), .null, .null, .int 0, .int 0, .null, .int 0, .null, .null])), (179, .inl (E.2.2.1 4, 2, .inr (.inr (.inr (.inr (fun _ => none))))))])) H := hP
  refine lv_aload_n hx hb dX6_init_41 rfl (lv_at hl 0 rfl) ?_
  refine lv_bipush (v := 8) hx hb dX6_init_42 (by decide) ?_
  refine x_arrQ (t0 := 4) (n0 := 8) B hz hP hS mw_71 B.2.2.2.1.2.2 rfl (by decide) (by decide) (Nat.le_of_ble_eq_true rfl) (Nat.le_of_ble_eq_true rfl) (Nat.le_of_ble_eq_true rfl) dX6_init_44 (fun H hz hP hS => ?_)
  rw [ct_push] at hP
  rw [ct_swap2 (by decide) (by decide)] at hP
  have hz : H.size = E.2.1 + 182 := hz
  have hP : va_P E.1 vwCl (wl E 182 (ct E C 0 [(0, .inr (6, [.ref (E.2.1 + 1), .ref (E.2.1 + 90), .ref (E.2.1 + 179), .ref (E.2.1 + 180), .null, .null, .int 0, .int 0, .null, .int 0, .null, .null])), (179, .inl (E.2.2.1 4, 2, .inr (.inr (.inr (.inr (fun _ => none)))))), (181, .inl (E.2.2.1 4, 8, .inr (.inr (.inr (.inr (fun _ => none))))))])) H := hP
  refine W.cs (cells' := 181) (slots' := 1620) rfl rfl ?_
  refine x_putF (ci := 6) tyX6 B hz hP hS in6 tyX6_ok nmX6 rfl (by decide) sel_hd 4 (by decide) rfl rfl mw_416 rfl hin rfl rfl (Nat.lt_of_lt_of_le (show 4 < 12 by decide) (Nat.le_of_ble_eq_true rfl)) dX6_init_47 (fun H locs hz hP hS => ?_)
  rw [ct_up0] at hP
  have hz : H.size = E.2.1 + 182 := hz
  have hP : va_P E.1 vwCl (wl E 182 (ct E C 0 [(0, .inr (6, [.ref (E.2.1 + 1), .ref (E.2.1 + 90), .ref (E.2.1 + 179), .ref (E.2.1 + 180), .ref (E.2.1 + 181), .null, .int 0, .int 0, .null, .int 0, .null, .null])), (179, .inl (E.2.2.1 4, 2, .inr (.inr (.inr (.inr (fun _ => none)))))), (181, .inl (E.2.2.1 4, 8, .inr (.inr (.inr (.inr (fun _ => none))))))])) H := hP
  refine lv_aload_n hx hb dX6_init_50 rfl (lv_at hl 0 rfl) ?_
  refine lv_bipush (v := 8) hx hb dX6_init_51 (by decide) ?_
  refine x_arrI (n0 := 8) B hz hP hS mw_109 (by decide) (by decide) (Nat.le_of_ble_eq_true rfl) (Nat.le_of_ble_eq_true rfl) (Nat.le_of_ble_eq_true rfl) dX6_init_53 (fun H hz hP hS => ?_)
  rw [ct_arr (List.forall_mem_cons.mpr ⟨(show 0 < 182 from (by decide)), List.forall_mem_cons.mpr ⟨(show 179 < 182 from (by decide)), List.forall_mem_cons.mpr ⟨(show 181 < 182 from (by decide)), fun _ h => absurd h List.not_mem_nil⟩⟩⟩) (by decide) (by rw [hcc8 _ _ (show hk 182 = 8 from (by decide +kernel)), show hlen 182 = 8 from (by decide +kernel), r0_fn8 (show hk 182 = 8 from (by decide +kernel)) (by decide)])] at hP
  have hz : H.size = E.2.1 + 183 := hz
  have hP : va_P E.1 vwCl (wl E 183 (ct E C 0 [(0, .inr (6, [.ref (E.2.1 + 1), .ref (E.2.1 + 90), .ref (E.2.1 + 179), .ref (E.2.1 + 180), .ref (E.2.1 + 181), .null, .int 0, .int 0, .null, .int 0, .null, .null])), (179, .inl (E.2.2.1 4, 2, .inr (.inr (.inr (.inr (fun _ => none)))))), (181, .inl (E.2.2.1 4, 8, .inr (.inr (.inr (.inr (fun _ => none))))))])) H := hP
  refine W.cs (cells' := 182) (slots' := 1628) rfl rfl ?_
  refine x_putF (ci := 6) tyX6 B hz hP hS in6 tyX6_ok nmX6 rfl (by decide) sel_hd 5 (by decide) rfl rfl mw_417 rfl hin rfl rfl (Nat.lt_of_lt_of_le (show 5 < 12 by decide) (Nat.le_of_ble_eq_true rfl)) dX6_init_55 (fun H locs hz hP hS => ?_)
  rw [ct_up0] at hP
  have hz : H.size = E.2.1 + 183 := hz
  have hP : va_P E.1 vwCl (wl E 183 (ct E C 0 [(0, .inr (6, [.ref (E.2.1 + 1), .ref (E.2.1 + 90), .ref (E.2.1 + 179), .ref (E.2.1 + 180), .ref (E.2.1 + 181), .ref (E.2.1 + 182), .int 0, .int 0, .null, .int 0, .null, .null])), (179, .inl (E.2.2.1 4, 2, .inr (.inr (.inr (.inr (fun _ => none)))))), (181, .inl (E.2.2.1 4, 8, .inr (.inr (.inr (.inr (fun _ => none))))))])) H := hP
  refine lv_aload_n hx hb dX6_init_58 rfl (lv_at hl 0 rfl) ?_
  refine lv_iconst (v := 0) hx hb dX6_init_59 (by decide) ?_
  refine x_putI (ci := 6) tyX6 B hz hP hS in6 tyX6_ok nmX6 rfl (by decide) sel_hd 6 (by decide) rfl mw_418 rfl rfl rfl (Nat.lt_of_lt_of_le (show 6 < 12 by decide) (Nat.le_of_ble_eq_true rfl)) dX6_init_60 (fun H locs hz hP hS => ?_)
  rw [ct_up0] at hP
  have hz : H.size = E.2.1 + 183 := hz
  have hP : va_P E.1 vwCl (wl E 183 (ct E C 0 [(0, .inr (6, [.ref (E.2.1 + 1), .ref (E.2.1 + 90), .ref (E.2.1 + 179), .ref (E.2.1 + 180), .ref (E.2.1 + 181), .ref (E.2.1 + 182), .int 0, .int 0, .null, .int 0, .null, .null])), (179, .inl (E.2.2.1 4, 2, .inr (.inr (.inr (.inr (fun _ => none)))))), (181, .inl (E.2.2.1 4, 8, .inr (.inr (.inr (.inr (fun _ => none))))))])) H := hP
  refine lv_aload_n hx hb dX6_init_63 rfl (lv_at hl 0 rfl) ?_
  refine lv_iconst (v := 0) hx hb dX6_init_64 (by decide) ?_
  refine x_putI (ci := 6) tyX6 B hz hP hS in6 tyX6_ok nmX6 rfl (by decide) sel_hd 7 (by decide) rfl mw_419 rfl rfl rfl (Nat.lt_of_lt_of_le (show 7 < 12 by decide) (Nat.le_of_ble_eq_true rfl)) dX6_init_65 (fun H locs hz hP hS => ?_)
  rw [ct_up0] at hP
  have hz : H.size = E.2.1 + 183 := hz
  have hP : va_P E.1 vwCl (wl E 183 (ct E C 0 [(0, .inr (6, [.ref (E.2.1 + 1), .ref (E.2.1 + 90), .ref (E.2.1 + 179), .ref (E.2.1 + 180), .ref (E.2.1 + 181), .ref (E.2.1 + 182), .int 0, .int 0, .null, .int 0, .null, .null])), (179, .inl (E.2.2.1 4, 2, .inr (.inr (.inr (.inr (fun _ => none)))))), (181, .inl (E.2.2.1 4, 8, .inr (.inr (.inr (.inr (fun _ => none))))))])) H := hP
  refine lv_aload_n hx hb dX6_init_68 rfl (lv_at hl 0 rfl) ?_
  refine lv_iconst (v := 5) hx hb dX6_init_69 (by decide) ?_
  refine x_arrI (n0 := 5) B hz hP hS mw_109 (by decide) (by decide) (Nat.le_of_ble_eq_true rfl) (Nat.le_of_ble_eq_true rfl) (Nat.le_of_ble_eq_true rfl) dX6_init_70 (fun H hz hP hS => ?_)
  rw [ct_arr (List.forall_mem_cons.mpr ⟨(show 0 < 183 from (by decide)), List.forall_mem_cons.mpr ⟨(show 179 < 183 from (by decide)), List.forall_mem_cons.mpr ⟨(show 181 < 183 from (by decide)), fun _ h => absurd h List.not_mem_nil⟩⟩⟩) (by decide) (by rw [hcc8 _ _ (show hk 183 = 8 from (by decide +kernel)), show hlen 183 = 5 from (by decide +kernel), r0_fn8 (show hk 183 = 8 from (by decide +kernel)) (by decide)])] at hP
  have hz : H.size = E.2.1 + 184 := hz
  have hP : va_P E.1 vwCl (wl E 184 (ct E C 0 [(0, .inr (6, [.ref (E.2.1 + 1), .ref (E.2.1 + 90), .ref (E.2.1 + 179), .ref (E.2.1 + 180), .ref (E.2.1 + 181), .ref (E.2.1 + 182), .int 0, .int 0, .null, .int 0, .null, .null])), (179, .inl (E.2.2.1 4, 2, .inr (.inr (.inr (.inr (fun _ => none)))))), (181, .inl (E.2.2.1 4, 8, .inr (.inr (.inr (.inr (fun _ => none))))))])) H := hP
  refine W.cs (cells' := 183) (slots' := 1633) rfl rfl ?_
  refine x_putF (ci := 6) tyX6 B hz hP hS in6 tyX6_ok nmX6 rfl (by decide) sel_hd 8 (by decide) rfl rfl mw_420 rfl hin rfl rfl (Nat.lt_of_lt_of_le (show 8 < 12 by decide) (Nat.le_of_ble_eq_true rfl)) dX6_init_72 (fun H locs hz hP hS => ?_)
  rw [ct_up0] at hP
  have hz : H.size = E.2.1 + 184 := hz
  have hP : va_P E.1 vwCl (wl E 184 (ct E C 0 [(0, .inr (6, [.ref (E.2.1 + 1), .ref (E.2.1 + 90), .ref (E.2.1 + 179), .ref (E.2.1 + 180), .ref (E.2.1 + 181), .ref (E.2.1 + 182), .int 0, .int 0, .ref (E.2.1 + 183), .int 0, .null, .null])), (179, .inl (E.2.2.1 4, 2, .inr (.inr (.inr (.inr (fun _ => none)))))), (181, .inl (E.2.2.1 4, 8, .inr (.inr (.inr (.inr (fun _ => none))))))])) H := hP
  refine lv_aload_n hx hb dX6_init_75 rfl (lv_at hl 0 rfl) ?_
  refine lv_iconst (v := 0) hx hb dX6_init_76 (by decide) ?_
  refine x_putI (ci := 6) tyX6 B hz hP hS in6 tyX6_ok nmX6 rfl (by decide) sel_hd 9 (by decide) rfl mw_421 rfl rfl rfl (Nat.lt_of_lt_of_le (show 9 < 12 by decide) (Nat.le_of_ble_eq_true rfl)) dX6_init_77 (fun H locs hz hP hS => ?_)
  rw [ct_up0] at hP
  have hz : H.size = E.2.1 + 184 := hz
  have hP : va_P E.1 vwCl (wl E 184 (ct E C 0 [(0, .inr (6, [.ref (E.2.1 + 1), .ref (E.2.1 + 90), .ref (E.2.1 + 179), .ref (E.2.1 + 180), .ref (E.2.1 + 181), .ref (E.2.1 + 182), .int 0, .int 0, .ref (E.2.1 + 183), .int 0, .null, .null])), (179, .inl (E.2.2.1 4, 2, .inr (.inr (.inr (.inr (fun _ => none)))))), (181, .inl (E.2.2.1 4, 8, .inr (.inr (.inr (.inr (fun _ => none))))))])) H := hP
  refine lv_aload_n hx hb dX6_init_80 rfl (lv_at hl 0 rfl) ?_
  refine lv_sipush (v := 512) hx hb dX6_init_81 (by decide) ?_
  refine x_arrI (n0 := 512) B hz hP hS mw_109 (by decide) (by decide) (Nat.le_of_ble_eq_true rfl) (Nat.le_of_ble_eq_true rfl) (Nat.le_of_ble_eq_true rfl) dX6_init_84 (fun H hz hP hS => ?_)
  rw [ct_arr (List.forall_mem_cons.mpr ⟨(show 0 < 184 from (by decide)), List.forall_mem_cons.mpr ⟨(show 179 < 184 from (by decide)), List.forall_mem_cons.mpr ⟨(show 181 < 184 from (by decide)), fun _ h => absurd h List.not_mem_nil⟩⟩⟩) (by decide) (by rw [hcc8 _ _ (show hk 184 = 8 from (by decide +kernel)), show hlen 184 = 512 from (by decide +kernel), r0_fn8 (show hk 184 = 8 from (by decide +kernel)) (by decide)])] at hP
  have hz : H.size = E.2.1 + 185 := hz
  have hP : va_P E.1 vwCl (wl E 185 (ct E C 0 [(0, .inr (6, [.ref (E.2.1 + 1), .ref (E.2.1 + 90), .ref (E.2.1 + 179), .ref (E.2.1 + 180), .ref (E.2.1 + 181), .ref (E.2.1 + 182), .int 0, .int 0, .ref (E.2.1 + 183), .int 0, .null, .null])), (179, .inl (E.2.2.1 4, 2, .inr (.inr (.inr (.inr (fun _ => none)))))), (181, .inl (E.2.2.1 4, 8, .inr (.inr (.inr (.inr (fun _ => none))))))])) H := hP
  refine W.cs (cells' := 184) (slots' := 2145) rfl rfl ?_
  refine x_putF (ci := 6) tyX6 B hz hP hS in6 tyX6_ok nmX6 rfl (by decide) sel_hd 10 (by decide) rfl rfl mw_422 rfl hin rfl rfl (Nat.lt_of_lt_of_le (show 10 < 12 by decide) (Nat.le_of_ble_eq_true rfl)) dX6_init_86 (fun H locs hz hP hS => ?_)
  rw [ct_up0] at hP
  have hz : H.size = E.2.1 + 185 := hz
  have hP : va_P E.1 vwCl (wl E 185 (ct E C 0 [(0, .inr (6, [.ref (E.2.1 + 1), .ref (E.2.1 + 90), .ref (E.2.1 + 179), .ref (E.2.1 + 180), .ref (E.2.1 + 181), .ref (E.2.1 + 182), .int 0, .int 0, .ref (E.2.1 + 183), .int 0, .ref (E.2.1 + 184), .null])), (179, .inl (E.2.2.1 4, 2, .inr (.inr (.inr (.inr (fun _ => none)))))), (181, .inl (E.2.2.1 4, 8, .inr (.inr (.inr (.inr (fun _ => none))))))])) H := hP
  refine lv_aload_n hx hb dX6_init_89 rfl (lv_at hl 0 rfl) ?_
  refine lv_sipush (v := 576) hx hb dX6_init_90 (by decide) ?_
  refine x_arrI (n0 := 576) B hz hP hS mw_109 (by decide) (by decide) (Nat.le_of_ble_eq_true rfl) (Nat.le_of_ble_eq_true rfl) (Nat.le_of_ble_eq_true rfl) dX6_init_93 (fun H hz hP hS => ?_)
  rw [ct_arr (List.forall_mem_cons.mpr ⟨(show 0 < 185 from (by decide)), List.forall_mem_cons.mpr ⟨(show 179 < 185 from (by decide)), List.forall_mem_cons.mpr ⟨(show 181 < 185 from (by decide)), fun _ h => absurd h List.not_mem_nil⟩⟩⟩) (by decide) (by rw [hcc8 _ _ (show hk 185 = 8 from (by decide +kernel)), show hlen 185 = 576 from (by decide +kernel), r0_fn8 (show hk 185 = 8 from (by decide +kernel)) (by decide)])] at hP
  have hz : H.size = E.2.1 + 186 := hz
  have hP : va_P E.1 vwCl (wl E 186 (ct E C 0 [(0, .inr (6, [.ref (E.2.1 + 1), .ref (E.2.1 + 90), .ref (E.2.1 + 179), .ref (E.2.1 + 180), .ref (E.2.1 + 181), .ref (E.2.1 + 182), .int 0, .int 0, .ref (E.2.1 + 183), .int 0, .ref (E.2.1 + 184), .null])), (179, .inl (E.2.2.1 4, 2, .inr (.inr (.inr (.inr (fun _ => none)))))), (181, .inl (E.2.2.1 4, 8, .inr (.inr (.inr (.inr (fun _ => none))))))])) H := hP
  refine W.cs (cells' := 185) (slots' := 2721) rfl rfl ?_
  refine x_putF (ci := 6) tyX6 B hz hP hS in6 tyX6_ok nmX6 rfl (by decide) sel_hd 11 (by decide) rfl rfl mw_423 rfl hin rfl rfl (Nat.lt_of_lt_of_le (show 11 < 12 by decide) (Nat.le_of_ble_eq_true rfl)) dX6_init_95 (fun H locs hz hP hS => ?_)
  rw [ct_up0] at hP
  have hz : H.size = E.2.1 + 186 := hz
  have hP : va_P E.1 vwCl (wl E 186 (ct E C 0 [(0, .inr (6, [.ref (E.2.1 + 1), .ref (E.2.1 + 90), .ref (E.2.1 + 179), .ref (E.2.1 + 180), .ref (E.2.1 + 181), .ref (E.2.1 + 182), .int 0, .int 0, .ref (E.2.1 + 183), .int 0, .ref (E.2.1 + 184), .ref (E.2.1 + 185)])), (179, .inl (E.2.2.1 4, 2, .inr (.inr (.inr (.inr (fun _ => none)))))), (181, .inl (E.2.2.1 4, 8, .inr (.inr (.inr (.inr (fun _ => none))))))])) H := hP
  refine lv_iconst (v := 0) hx hb dX6_init_98 (by decide) ?_
  refine lv_istore_n (lv' := [(1, .int 0), (0, .ref (E.2.1 + 0))]) hx hb dX6_init_99 rfl hl (by decide) rfl (fun ls hl => ?_)
  refine lv_iload_n hx hb dX6_init_100 rfl (lv_at hl 0 rfl) ?_
  refine lv_iconst (v := 2) hx hb dX6_init_101 (by decide) ?_
  refine lv_icmp_ge (tgt := 124) hx hb dX6_init_102 (by decide) (fun c1 => absurd c1 (by decide)) (fun _ => ?_)
  refine lv_aload_n hx hb dX6_init_105 rfl (lv_at hl 1 rfl) ?_
  refine x_get (ci := 6) B hP in6 rfl (by decide) sel_hd 2 (by decide) rfl mw_414 rfl dX6_init_106 ?_
  refine lv_iload_n hx hb dX6_init_109 rfl (lv_at hl 0 rfl) ?_
  refine x_new (ci := 5) (fs := [.null, .null, .null, .null, .int 0, .int 0, .int 0, .int 0, .int 0, .int 0]) tyX5 B hz hP hS in5 tyX5_ok rfl mw_71 mw_72 mw_53 (by decide) (Nat.le_of_ble_eq_true rfl) (Nat.le_of_ble_eq_true rfl) dX6_init_110 (fun H hz hP hS => ?_)
  rw [ct_push] at hP
  have hz : H.size = E.2.1 + (186 + 1) := hz
  refine W.cs (cells' := 186) (slots' := 2731) rfl rfl ?_
  refine lv_dup hx hb dX6_init_113 rfl ?_
  refine xcI B hz hP hS (k_X5_init l E _ 186 (by decide +kernel) sel_hd) mw_73 lkc_X5 hl.1 (Nat.le_of_ble_eq_true rfl) ⟨Nat.le_of_ble_eq_true rfl, Nat.le_of_ble_eq_true rfl⟩ ⟨Nat.le_of_ble_eq_true rfl, Nat.le_of_ble_eq_true rfl⟩ dX6_init_114 (fun H locs hz hP hS => ?_)
  rw [ct_call (List.forall_mem_cons.mpr ⟨(show 0 < 186 from (by decide)), List.forall_mem_cons.mpr ⟨(show 179 < 186 from (by decide)), List.forall_mem_cons.mpr ⟨(show 181 < 186 from (by decide)), fun _ h => absurd h List.not_mem_nil⟩⟩⟩) (by decide)] at hP
  have hz : H.size = E.2.1 + 275 := hz
  have hP : va_P E.1 vwCl (wl E 275 (ct E C 0 [(0, .inr (6, [.ref (E.2.1 + 1), .ref (E.2.1 + 90), .ref (E.2.1 + 179), .ref (E.2.1 + 180), .ref (E.2.1 + 181), .ref (E.2.1 + 182), .int 0, .int 0, .ref (E.2.1 + 183), .int 0, .ref (E.2.1 + 184), .ref (E.2.1 + 185)])), (179, .inl (E.2.2.1 4, 2, .inr (.inr (.inr (.inr (fun _ => none)))))), (181, .inl (E.2.2.1 4, 8, .inr (.inr (.inr (.inr (fun _ => none))))))])) H := hP
  refine W.cs (cells' := 274) (slots' := 3525) rfl rfl ?_
  refine x_aast (ci := 5) (t0 := 4) (i0 := 0) B hz hP hS (by decide) ((sel_tl (by decide)).trans sel_hd) rfl (by decide) ((sel_tl (by decide)).trans ((sel_tl (by decide)).trans ((sel_tl (by decide)).trans ((if_neg (by decide)).trans (hcc5 _ _ (by decide +kernel)))))) rfl rfl (by decide) (by decide) dX6_init_117 (fun H locs hz hP hS => ?_)
  rw [ct_up1 (by decide)] at hP
  have hz : H.size = E.2.1 + 275 := hz
  have hP : va_P E.1 vwCl (wl E 275 (ct E C 0 [(0, .inr (6, [.ref (E.2.1 + 1), .ref (E.2.1 + 90), .ref (E.2.1 + 179), .ref (E.2.1 + 180), .ref (E.2.1 + 181), .ref (E.2.1 + 182), .int 0, .int 0, .ref (E.2.1 + 183), .int 0, .ref (E.2.1 + 184), .ref (E.2.1 + 185)])), (179, .inl (E.2.2.1 4, 2, .inr (.inr (.inr (.inr (va_up (fun _ => none) 0 (some (E.2.1 + 186)))))))), (181, .inl (E.2.2.1 4, 8, .inr (.inr (.inr (.inr (fun _ => none))))))])) H := hP
  refine lv_iinc (v := 1) (lv' := [(1, .int 1), (0, .ref (E.2.1 + 0))]) hx hb dX6_init_118 hl (k := 0) rfl (by decide) (by decide) rfl (fun ls hl => ?_)
  refine lv_goto (tgt := 100) hx hb dX6_init_121 (by decide) ?_
  refine lv_iload_n hx hb dX6_init_100 rfl (lv_at hl 0 rfl) ?_
  refine lv_iconst (v := 2) hx hb dX6_init_101 (by decide) ?_
  refine lv_icmp_ge (tgt := 124) hx hb dX6_init_102 (by decide) (fun c2 => absurd c2 (by decide)) (fun _ => ?_)
  refine lv_aload_n hx hb dX6_init_105 rfl (lv_at hl 1 rfl) ?_
  refine x_get (ci := 6) B hP in6 rfl (by decide) sel_hd 2 (by decide) rfl mw_414 rfl dX6_init_106 ?_
  refine lv_iload_n hx hb dX6_init_109 rfl (lv_at hl 0 rfl) ?_
  refine x_new (ci := 5) (fs := [.null, .null, .null, .null, .int 0, .int 0, .int 0, .int 0, .int 0, .int 0]) tyX5 B hz hP hS in5 tyX5_ok rfl mw_71 mw_72 mw_53 (by decide) (Nat.le_of_ble_eq_true rfl) (Nat.le_of_ble_eq_true rfl) dX6_init_110 (fun H hz hP hS => ?_)
  rw [ct_push] at hP
  have hz : H.size = E.2.1 + (275 + 1) := hz
  refine W.cs (cells' := 275) (slots' := 3535) rfl rfl ?_
  refine lv_dup hx hb dX6_init_113 rfl ?_
  refine xcI B hz hP hS (k_X5_init l E _ 275 (by decide +kernel) sel_hd) mw_73 lkc_X5 hl.1 (Nat.le_of_ble_eq_true rfl) ⟨Nat.le_of_ble_eq_true rfl, Nat.le_of_ble_eq_true rfl⟩ ⟨Nat.le_of_ble_eq_true rfl, Nat.le_of_ble_eq_true rfl⟩ dX6_init_114 (fun H locs hz hP hS => ?_)
  rw [ct_call (List.forall_mem_cons.mpr ⟨(show 0 < 275 from (by decide)), List.forall_mem_cons.mpr ⟨(show 179 < 275 from (by decide)), List.forall_mem_cons.mpr ⟨(show 181 < 275 from (by decide)), fun _ h => absurd h List.not_mem_nil⟩⟩⟩) (by decide)] at hP
  have hz : H.size = E.2.1 + 364 := hz
  have hP : va_P E.1 vwCl (wl E 364 (ct E C 0 [(0, .inr (6, [.ref (E.2.1 + 1), .ref (E.2.1 + 90), .ref (E.2.1 + 179), .ref (E.2.1 + 180), .ref (E.2.1 + 181), .ref (E.2.1 + 182), .int 0, .int 0, .ref (E.2.1 + 183), .int 0, .ref (E.2.1 + 184), .ref (E.2.1 + 185)])), (179, .inl (E.2.2.1 4, 2, .inr (.inr (.inr (.inr (va_up (fun _ => none) 0 (some (E.2.1 + 186)))))))), (181, .inl (E.2.2.1 4, 8, .inr (.inr (.inr (.inr (fun _ => none))))))])) H := hP
  refine W.cs (cells' := 363) (slots' := 4329) rfl rfl ?_
  refine x_aast (ci := 5) (t0 := 4) (i0 := 1) B hz hP hS (by decide) ((sel_tl (by decide)).trans sel_hd) rfl (by decide) ((sel_tl (by decide)).trans ((sel_tl (by decide)).trans ((sel_tl (by decide)).trans ((if_neg (by decide)).trans (hcc5 _ _ (by decide +kernel)))))) rfl rfl (by decide) (by decide) dX6_init_117 (fun H locs hz hP hS => ?_)
  rw [ct_up1 (by decide)] at hP
  have hz : H.size = E.2.1 + 364 := hz
  have hP : va_P E.1 vwCl (wl E 364 (ct E C 0 [(0, .inr (6, [.ref (E.2.1 + 1), .ref (E.2.1 + 90), .ref (E.2.1 + 179), .ref (E.2.1 + 180), .ref (E.2.1 + 181), .ref (E.2.1 + 182), .int 0, .int 0, .ref (E.2.1 + 183), .int 0, .ref (E.2.1 + 184), .ref (E.2.1 + 185)])), (179, .inl (E.2.2.1 4, 2, .inr (.inr (.inr (.inr (va_up (va_up (fun _ => none) 0 (some (E.2.1 + 186))) 1 (some (E.2.1 + 275)))))))), (181, .inl (E.2.2.1 4, 8, .inr (.inr (.inr (.inr (fun _ => none))))))])) H := hP
  refine lv_iinc (v := 2) (lv' := [(1, .int 2), (0, .ref (E.2.1 + 0))]) hx hb dX6_init_118 hl (k := 0) rfl (by decide) (by decide) rfl (fun ls hl => ?_)
  refine lv_goto (tgt := 100) hx hb dX6_init_121 (by decide) ?_
  refine lv_iload_n hx hb dX6_init_100 rfl (lv_at hl 0 rfl) ?_
  refine lv_iconst (v := 2) hx hb dX6_init_101 (by decide) ?_
  refine lv_icmp_ge (tgt := 124) hx hb dX6_init_102 (by decide) (fun _ => ?_) (fun c3 => absurd c3 (by decide))
  refine lv_iconst (v := 0) hx hb dX6_init_124 (by decide) ?_
  refine lv_istore_n (lv' := [(1, .int 0), (0, .ref (E.2.1 + 0))]) hx hb dX6_init_125 rfl hl (by decide) rfl (fun ls hl => ?_)
  refine lv_iload_n hx hb dX6_init_126 rfl (lv_at hl 0 rfl) ?_
  refine lv_bipush (v := 8) hx hb dX6_init_127 (by decide) ?_
  refine lv_icmp_ge (tgt := 151) hx hb dX6_init_129 (by decide) (fun c4 => absurd c4 (by decide)) (fun _ => ?_)
  refine lv_aload_n hx hb dX6_init_132 rfl (lv_at hl 1 rfl) ?_
  refine x_get (ci := 6) B hP in6 rfl (by decide) sel_hd 4 (by decide) rfl mw_416 rfl dX6_init_133 ?_
  refine lv_iload_n hx hb dX6_init_136 rfl (lv_at hl 0 rfl) ?_
  refine x_new (ci := 5) (fs := [.null, .null, .null, .null, .int 0, .int 0, .int 0, .int 0, .int 0, .int 0]) tyX5 B hz hP hS in5 tyX5_ok rfl mw_71 mw_72 mw_53 (by decide) (Nat.le_of_ble_eq_true rfl) (Nat.le_of_ble_eq_true rfl) dX6_init_137 (fun H hz hP hS => ?_)
  rw [ct_push] at hP
  have hz : H.size = E.2.1 + (364 + 1) := hz
  refine W.cs (cells' := 364) (slots' := 4339) rfl rfl ?_
  refine lv_dup hx hb dX6_init_140 rfl ?_
  refine xcI B hz hP hS (k_X5_init l E _ 364 (by decide +kernel) sel_hd) mw_73 lkc_X5 hl.1 (Nat.le_of_ble_eq_true rfl) ⟨Nat.le_of_ble_eq_true rfl, Nat.le_of_ble_eq_true rfl⟩ ⟨Nat.le_of_ble_eq_true rfl, Nat.le_of_ble_eq_true rfl⟩ dX6_init_141 (fun H locs hz hP hS => ?_)
  rw [ct_call (List.forall_mem_cons.mpr ⟨(show 0 < 364 from (by decide)), List.forall_mem_cons.mpr ⟨(show 179 < 364 from (by decide)), List.forall_mem_cons.mpr ⟨(show 181 < 364 from (by decide)), fun _ h => absurd h List.not_mem_nil⟩⟩⟩) (by decide)] at hP
  have hz : H.size = E.2.1 + 453 := hz
  have hP : va_P E.1 vwCl (wl E 453 (ct E C 0 [(0, .inr (6, [.ref (E.2.1 + 1), .ref (E.2.1 + 90), .ref (E.2.1 + 179), .ref (E.2.1 + 180), .ref (E.2.1 + 181), .ref (E.2.1 + 182), .int 0, .int 0, .ref (E.2.1 + 183), .int 0, .ref (E.2.1 + 184), .ref (E.2.1 + 185)])), (179, .inl (E.2.2.1 4, 2, .inr (.inr (.inr (.inr (va_up (va_up (fun _ => none) 0 (some (E.2.1 + 186))) 1 (some (E.2.1 + 275)))))))), (181, .inl (E.2.2.1 4, 8, .inr (.inr (.inr (.inr (fun _ => none))))))])) H := hP
  refine W.cs (cells' := 452) (slots' := 5133) rfl rfl ?_
  refine x_aast (ci := 5) (t0 := 4) (i0 := 0) B hz hP hS (by decide) ((sel_tl (by decide)).trans ((sel_tl (by decide)).trans sel_hd)) rfl (by decide) ((sel_tl (by decide)).trans ((sel_tl (by decide)).trans ((sel_tl (by decide)).trans ((if_neg (by decide)).trans (hcc5 _ _ (by decide +kernel)))))) rfl rfl (by decide) (by decide) dX6_init_144 (fun H locs hz hP hS => ?_)
  rw [ct_up2 (by decide) (by decide)] at hP
  have hz : H.size = E.2.1 + 453 := hz
  have hP : va_P E.1 vwCl (wl E 453 (ct E C 0 [(0, .inr (6, [.ref (E.2.1 + 1), .ref (E.2.1 + 90), .ref (E.2.1 + 179), .ref (E.2.1 + 180), .ref (E.2.1 + 181), .ref (E.2.1 + 182), .int 0, .int 0, .ref (E.2.1 + 183), .int 0, .ref (E.2.1 + 184), .ref (E.2.1 + 185)])), (179, .inl (E.2.2.1 4, 2, .inr (.inr (.inr (.inr (va_up (va_up (fun _ => none) 0 (some (E.2.1 + 186))) 1 (some (E.2.1 + 275)))))))), (181, .inl (E.2.2.1 4, 8, .inr (.inr (.inr (.inr (va_up (fun _ => none) 0 (some (E.2.1 + 364))))))))])) H := hP
  refine lv_iinc (v := 1) (lv' := [(1, .int 1), (0, .ref (E.2.1 + 0))]) hx hb dX6_init_145 hl (k := 0) rfl (by decide) (by decide) rfl (fun ls hl => ?_)
  refine lv_goto (tgt := 126) hx hb dX6_init_148 (by decide) ?_
  refine lv_iload_n hx hb dX6_init_126 rfl (lv_at hl 0 rfl) ?_
  refine lv_bipush (v := 8) hx hb dX6_init_127 (by decide) ?_
  refine lv_icmp_ge (tgt := 151) hx hb dX6_init_129 (by decide) (fun c5 => absurd c5 (by decide)) (fun _ => ?_)
  refine lv_aload_n hx hb dX6_init_132 rfl (lv_at hl 1 rfl) ?_
  refine x_get (ci := 6) B hP in6 rfl (by decide) sel_hd 4 (by decide) rfl mw_416 rfl dX6_init_133 ?_
  refine lv_iload_n hx hb dX6_init_136 rfl (lv_at hl 0 rfl) ?_
  refine x_new (ci := 5) (fs := [.null, .null, .null, .null, .int 0, .int 0, .int 0, .int 0, .int 0, .int 0]) tyX5 B hz hP hS in5 tyX5_ok rfl mw_71 mw_72 mw_53 (by decide) (Nat.le_of_ble_eq_true rfl) (Nat.le_of_ble_eq_true rfl) dX6_init_137 (fun H hz hP hS => ?_)
  rw [ct_push] at hP
  have hz : H.size = E.2.1 + (453 + 1) := hz
  refine W.cs (cells' := 453) (slots' := 5143) rfl rfl ?_
  refine lv_dup hx hb dX6_init_140 rfl ?_
  refine xcI B hz hP hS (k_X5_init l E _ 453 (by decide +kernel) sel_hd) mw_73 lkc_X5 hl.1 (Nat.le_of_ble_eq_true rfl) ⟨Nat.le_of_ble_eq_true rfl, Nat.le_of_ble_eq_true rfl⟩ ⟨Nat.le_of_ble_eq_true rfl, Nat.le_of_ble_eq_true rfl⟩ dX6_init_141 (fun H locs hz hP hS => ?_)
  rw [ct_call (List.forall_mem_cons.mpr ⟨(show 0 < 453 from (by decide)), List.forall_mem_cons.mpr ⟨(show 179 < 453 from (by decide)), List.forall_mem_cons.mpr ⟨(show 181 < 453 from (by decide)), fun _ h => absurd h List.not_mem_nil⟩⟩⟩) (by decide)] at hP
  have hz : H.size = E.2.1 + 542 := hz
  have hP : va_P E.1 vwCl (wl E 542 (ct E C 0 [(0, .inr (6, [.ref (E.2.1 + 1), .ref (E.2.1 + 90), .ref (E.2.1 + 179), .ref (E.2.1 + 180), .ref (E.2.1 + 181), .ref (E.2.1 + 182), .int 0, .int 0, .ref (E.2.1 + 183), .int 0, .ref (E.2.1 + 184), .ref (E.2.1 + 185)])), (179, .inl (E.2.2.1 4, 2, .inr (.inr (.inr (.inr (va_up (va_up (fun _ => none) 0 (some (E.2.1 + 186))) 1 (some (E.2.1 + 275)))))))), (181, .inl (E.2.2.1 4, 8, .inr (.inr (.inr (.inr (va_up (fun _ => none) 0 (some (E.2.1 + 364))))))))])) H := hP
  refine W.cs (cells' := 541) (slots' := 5937) rfl rfl ?_
  refine x_aast (ci := 5) (t0 := 4) (i0 := 1) B hz hP hS (by decide) ((sel_tl (by decide)).trans ((sel_tl (by decide)).trans sel_hd)) rfl (by decide) ((sel_tl (by decide)).trans ((sel_tl (by decide)).trans ((sel_tl (by decide)).trans ((if_neg (by decide)).trans (hcc5 _ _ (by decide +kernel)))))) rfl rfl (by decide) (by decide) dX6_init_144 (fun H locs hz hP hS => ?_)
  rw [ct_up2 (by decide) (by decide)] at hP
  have hz : H.size = E.2.1 + 542 := hz
  have hP : va_P E.1 vwCl (wl E 542 (ct E C 0 [(0, .inr (6, [.ref (E.2.1 + 1), .ref (E.2.1 + 90), .ref (E.2.1 + 179), .ref (E.2.1 + 180), .ref (E.2.1 + 181), .ref (E.2.1 + 182), .int 0, .int 0, .ref (E.2.1 + 183), .int 0, .ref (E.2.1 + 184), .ref (E.2.1 + 185)])), (179, .inl (E.2.2.1 4, 2, .inr (.inr (.inr (.inr (va_up (va_up (fun _ => none) 0 (some (E.2.1 + 186))) 1 (some (E.2.1 + 275)))))))), (181, .inl (E.2.2.1 4, 8, .inr (.inr (.inr (.inr (va_up (va_up (fun _ => none) 0 (some (E.2.1 + 364))) 1 (some (E.2.1 + 453))))))))])) H := hP
  refine lv_iinc (v := 2) (lv' := [(1, .int 2), (0, .ref (E.2.1 + 0))]) hx hb dX6_init_145 hl (k := 0) rfl (by decide) (by decide) rfl (fun ls hl => ?_)
  refine lv_goto (tgt := 126) hx hb dX6_init_148 (by decide) ?_
  refine lv_iload_n hx hb dX6_init_126 rfl (lv_at hl 0 rfl) ?_
  refine lv_bipush (v := 8) hx hb dX6_init_127 (by decide) ?_
  refine lv_icmp_ge (tgt := 151) hx hb dX6_init_129 (by decide) (fun c6 => absurd c6 (by decide)) (fun _ => ?_)
  refine lv_aload_n hx hb dX6_init_132 rfl (lv_at hl 1 rfl) ?_
  refine x_get (ci := 6) B hP in6 rfl (by decide) sel_hd 4 (by decide) rfl mw_416 rfl dX6_init_133 ?_
  refine lv_iload_n hx hb dX6_init_136 rfl (lv_at hl 0 rfl) ?_
  refine x_new (ci := 5) (fs := [.null, .null, .null, .null, .int 0, .int 0, .int 0, .int 0, .int 0, .int 0]) tyX5 B hz hP hS in5 tyX5_ok rfl mw_71 mw_72 mw_53 (by decide) (Nat.le_of_ble_eq_true rfl) (Nat.le_of_ble_eq_true rfl) dX6_init_137 (fun H hz hP hS => ?_)
  rw [ct_push] at hP
  have hz : H.size = E.2.1 + (542 + 1) := hz
  refine W.cs (cells' := 542) (slots' := 5947) rfl rfl ?_
  refine lv_dup hx hb dX6_init_140 rfl ?_
  refine xcI B hz hP hS (k_X5_init l E _ 542 (by decide +kernel) sel_hd) mw_73 lkc_X5 hl.1 (Nat.le_of_ble_eq_true rfl) ⟨Nat.le_of_ble_eq_true rfl, Nat.le_of_ble_eq_true rfl⟩ ⟨Nat.le_of_ble_eq_true rfl, Nat.le_of_ble_eq_true rfl⟩ dX6_init_141 (fun H locs hz hP hS => ?_)
  rw [ct_call (List.forall_mem_cons.mpr ⟨(show 0 < 542 from (by decide)), List.forall_mem_cons.mpr ⟨(show 179 < 542 from (by decide)), List.forall_mem_cons.mpr ⟨(show 181 < 542 from (by decide)), fun _ h => absurd h List.not_mem_nil⟩⟩⟩) (by decide)] at hP
  have hz : H.size = E.2.1 + 631 := hz
  have hP : va_P E.1 vwCl (wl E 631 (ct E C 0 [(0, .inr (6, [.ref (E.2.1 + 1), .ref (E.2.1 + 90), .ref (E.2.1 + 179), .ref (E.2.1 + 180), .ref (E.2.1 + 181), .ref (E.2.1 + 182), .int 0, .int 0, .ref (E.2.1 + 183), .int 0, .ref (E.2.1 + 184), .ref (E.2.1 + 185)])), (179, .inl (E.2.2.1 4, 2, .inr (.inr (.inr (.inr (va_up (va_up (fun _ => none) 0 (some (E.2.1 + 186))) 1 (some (E.2.1 + 275)))))))), (181, .inl (E.2.2.1 4, 8, .inr (.inr (.inr (.inr (va_up (va_up (fun _ => none) 0 (some (E.2.1 + 364))) 1 (some (E.2.1 + 453))))))))])) H := hP
  refine W.cs (cells' := 630) (slots' := 6741) rfl rfl ?_
  refine x_aast (ci := 5) (t0 := 4) (i0 := 2) B hz hP hS (by decide) ((sel_tl (by decide)).trans ((sel_tl (by decide)).trans sel_hd)) rfl (by decide) ((sel_tl (by decide)).trans ((sel_tl (by decide)).trans ((sel_tl (by decide)).trans ((if_neg (by decide)).trans (hcc5 _ _ (by decide +kernel)))))) rfl rfl (by decide) (by decide) dX6_init_144 (fun H locs hz hP hS => ?_)
  rw [ct_up2 (by decide) (by decide)] at hP
  have hz : H.size = E.2.1 + 631 := hz
  have hP : va_P E.1 vwCl (wl E 631 (ct E C 0 [(0, .inr (6, [.ref (E.2.1 + 1), .ref (E.2.1 + 90), .ref (E.2.1 + 179), .ref (E.2.1 + 180), .ref (E.2.1 + 181), .ref (E.2.1 + 182), .int 0, .int 0, .ref (E.2.1 + 183), .int 0, .ref (E.2.1 + 184), .ref (E.2.1 + 185)])), (179, .inl (E.2.2.1 4, 2, .inr (.inr (.inr (.inr (va_up (va_up (fun _ => none) 0 (some (E.2.1 + 186))) 1 (some (E.2.1 + 275)))))))), (181, .inl (E.2.2.1 4, 8, .inr (.inr (.inr (.inr (va_up (va_up (va_up (fun _ => none) 0 (some (E.2.1 + 364))) 1 (some (E.2.1 + 453))) 2 (some (E.2.1 + 542))))))))])) H := hP
  refine lv_iinc (v := 3) (lv' := [(1, .int 3), (0, .ref (E.2.1 + 0))]) hx hb dX6_init_145 hl (k := 0) rfl (by decide) (by decide) rfl (fun ls hl => ?_)
  refine lv_goto (tgt := 126) hx hb dX6_init_148 (by decide) ?_
  refine lv_iload_n hx hb dX6_init_126 rfl (lv_at hl 0 rfl) ?_
  refine lv_bipush (v := 8) hx hb dX6_init_127 (by decide) ?_
  refine lv_icmp_ge (tgt := 151) hx hb dX6_init_129 (by decide) (fun c7 => absurd c7 (by decide)) (fun _ => ?_)
  refine lv_aload_n hx hb dX6_init_132 rfl (lv_at hl 1 rfl) ?_
  refine x_get (ci := 6) B hP in6 rfl (by decide) sel_hd 4 (by decide) rfl mw_416 rfl dX6_init_133 ?_
  refine lv_iload_n hx hb dX6_init_136 rfl (lv_at hl 0 rfl) ?_
  refine x_new (ci := 5) (fs := [.null, .null, .null, .null, .int 0, .int 0, .int 0, .int 0, .int 0, .int 0]) tyX5 B hz hP hS in5 tyX5_ok rfl mw_71 mw_72 mw_53 (by decide) (Nat.le_of_ble_eq_true rfl) (Nat.le_of_ble_eq_true rfl) dX6_init_137 (fun H hz hP hS => ?_)
  rw [ct_push] at hP
  have hz : H.size = E.2.1 + (631 + 1) := hz
  refine W.cs (cells' := 631) (slots' := 6751) rfl rfl ?_
  refine lv_dup hx hb dX6_init_140 rfl ?_
  refine xcI B hz hP hS (k_X5_init l E _ 631 (by decide +kernel) sel_hd) mw_73 lkc_X5 hl.1 (Nat.le_of_ble_eq_true rfl) ⟨Nat.le_of_ble_eq_true rfl, Nat.le_of_ble_eq_true rfl⟩ ⟨Nat.le_of_ble_eq_true rfl, Nat.le_of_ble_eq_true rfl⟩ dX6_init_141 (fun H locs hz hP hS => ?_)
  rw [ct_call (List.forall_mem_cons.mpr ⟨(show 0 < 631 from (by decide)), List.forall_mem_cons.mpr ⟨(show 179 < 631 from (by decide)), List.forall_mem_cons.mpr ⟨(show 181 < 631 from (by decide)), fun _ h => absurd h List.not_mem_nil⟩⟩⟩) (by decide)] at hP
  have hz : H.size = E.2.1 + 720 := hz
  have hP : va_P E.1 vwCl (wl E 720 (ct E C 0 [(0, .inr (6, [.ref (E.2.1 + 1), .ref (E.2.1 + 90), .ref (E.2.1 + 179), .ref (E.2.1 + 180), .ref (E.2.1 + 181), .ref (E.2.1 + 182), .int 0, .int 0, .ref (E.2.1 + 183), .int 0, .ref (E.2.1 + 184), .ref (E.2.1 + 185)])), (179, .inl (E.2.2.1 4, 2, .inr (.inr (.inr (.inr (va_up (va_up (fun _ => none) 0 (some (E.2.1 + 186))) 1 (some (E.2.1 + 275)))))))), (181, .inl (E.2.2.1 4, 8, .inr (.inr (.inr (.inr (va_up (va_up (va_up (fun _ => none) 0 (some (E.2.1 + 364))) 1 (some (E.2.1 + 453))) 2 (some (E.2.1 + 542))))))))])) H := hP
  refine W.cs (cells' := 719) (slots' := 7545) rfl rfl ?_
  refine x_aast (ci := 5) (t0 := 4) (i0 := 3) B hz hP hS (by decide) ((sel_tl (by decide)).trans ((sel_tl (by decide)).trans sel_hd)) rfl (by decide) ((sel_tl (by decide)).trans ((sel_tl (by decide)).trans ((sel_tl (by decide)).trans ((if_neg (by decide)).trans (hcc5 _ _ (by decide +kernel)))))) rfl rfl (by decide) (by decide) dX6_init_144 (fun H locs hz hP hS => ?_)
  rw [ct_up2 (by decide) (by decide)] at hP
  have hz : H.size = E.2.1 + 720 := hz
  have hP : va_P E.1 vwCl (wl E 720 (ct E C 0 [(0, .inr (6, [.ref (E.2.1 + 1), .ref (E.2.1 + 90), .ref (E.2.1 + 179), .ref (E.2.1 + 180), .ref (E.2.1 + 181), .ref (E.2.1 + 182), .int 0, .int 0, .ref (E.2.1 + 183), .int 0, .ref (E.2.1 + 184), .ref (E.2.1 + 185)])), (179, .inl (E.2.2.1 4, 2, .inr (.inr (.inr (.inr (va_up (va_up (fun _ => none) 0 (some (E.2.1 + 186))) 1 (some (E.2.1 + 275)))))))), (181, .inl (E.2.2.1 4, 8, .inr (.inr (.inr (.inr (va_up (va_up (va_up (va_up (fun _ => none) 0 (some (E.2.1 + 364))) 1 (some (E.2.1 + 453))) 2 (some (E.2.1 + 542))) 3 (some (E.2.1 + 631))))))))])) H := hP
  refine lv_iinc (v := 4) (lv' := [(1, .int 4), (0, .ref (E.2.1 + 0))]) hx hb dX6_init_145 hl (k := 0) rfl (by decide) (by decide) rfl (fun ls hl => ?_)
  refine lv_goto (tgt := 126) hx hb dX6_init_148 (by decide) ?_
  refine lv_iload_n hx hb dX6_init_126 rfl (lv_at hl 0 rfl) ?_
  refine lv_bipush (v := 8) hx hb dX6_init_127 (by decide) ?_
  refine lv_icmp_ge (tgt := 151) hx hb dX6_init_129 (by decide) (fun c8 => absurd c8 (by decide)) (fun _ => ?_)
  refine lv_aload_n hx hb dX6_init_132 rfl (lv_at hl 1 rfl) ?_
  refine x_get (ci := 6) B hP in6 rfl (by decide) sel_hd 4 (by decide) rfl mw_416 rfl dX6_init_133 ?_
  refine lv_iload_n hx hb dX6_init_136 rfl (lv_at hl 0 rfl) ?_
  refine x_new (ci := 5) (fs := [.null, .null, .null, .null, .int 0, .int 0, .int 0, .int 0, .int 0, .int 0]) tyX5 B hz hP hS in5 tyX5_ok rfl mw_71 mw_72 mw_53 (by decide) (Nat.le_of_ble_eq_true rfl) (Nat.le_of_ble_eq_true rfl) dX6_init_137 (fun H hz hP hS => ?_)
  rw [ct_push] at hP
  have hz : H.size = E.2.1 + (720 + 1) := hz
  refine W.cs (cells' := 720) (slots' := 7555) rfl rfl ?_
  refine lv_dup hx hb dX6_init_140 rfl ?_
  refine xcI B hz hP hS (k_X5_init l E _ 720 (by decide +kernel) sel_hd) mw_73 lkc_X5 hl.1 (Nat.le_of_ble_eq_true rfl) ⟨Nat.le_of_ble_eq_true rfl, Nat.le_of_ble_eq_true rfl⟩ ⟨Nat.le_of_ble_eq_true rfl, Nat.le_of_ble_eq_true rfl⟩ dX6_init_141 (fun H locs hz hP hS => ?_)
  rw [ct_call (List.forall_mem_cons.mpr ⟨(show 0 < 720 from (by decide)), List.forall_mem_cons.mpr ⟨(show 179 < 720 from (by decide)), List.forall_mem_cons.mpr ⟨(show 181 < 720 from (by decide)), fun _ h => absurd h List.not_mem_nil⟩⟩⟩) (by decide)] at hP
  have hz : H.size = E.2.1 + 809 := hz
  have hP : va_P E.1 vwCl (wl E 809 (ct E C 0 [(0, .inr (6, [.ref (E.2.1 + 1), .ref (E.2.1 + 90), .ref (E.2.1 + 179), .ref (E.2.1 + 180), .ref (E.2.1 + 181), .ref (E.2.1 + 182), .int 0, .int 0, .ref (E.2.1 + 183), .int 0, .ref (E.2.1 + 184), .ref (E.2.1 + 185)])), (179, .inl (E.2.2.1 4, 2, .inr (.inr (.inr (.inr (va_up (va_up (fun _ => none) 0 (some (E.2.1 + 186))) 1 (some (E.2.1 + 275)))))))), (181, .inl (E.2.2.1 4, 8, .inr (.inr (.inr (.inr (va_up (va_up (va_up (va_up (fun _ => none) 0 (some (E.2.1 + 364))) 1 (some (E.2.1 + 453))) 2 (some (E.2.1 + 542))) 3 (some (E.2.1 + 631))))))))])) H := hP
  refine W.cs (cells' := 808) (slots' := 8349) rfl rfl ?_
  refine x_aast (ci := 5) (t0 := 4) (i0 := 4) B hz hP hS (by decide) ((sel_tl (by decide)).trans ((sel_tl (by decide)).trans sel_hd)) rfl (by decide) ((sel_tl (by decide)).trans ((sel_tl (by decide)).trans ((sel_tl (by decide)).trans ((if_neg (by decide)).trans (hcc5 _ _ (by decide +kernel)))))) rfl rfl (by decide) (by decide) dX6_init_144 (fun H locs hz hP hS => ?_)
  rw [ct_up2 (by decide) (by decide)] at hP
  have hz : H.size = E.2.1 + 809 := hz
  have hP : va_P E.1 vwCl (wl E 809 (ct E C 0 [(0, .inr (6, [.ref (E.2.1 + 1), .ref (E.2.1 + 90), .ref (E.2.1 + 179), .ref (E.2.1 + 180), .ref (E.2.1 + 181), .ref (E.2.1 + 182), .int 0, .int 0, .ref (E.2.1 + 183), .int 0, .ref (E.2.1 + 184), .ref (E.2.1 + 185)])), (179, .inl (E.2.2.1 4, 2, .inr (.inr (.inr (.inr (va_up (va_up (fun _ => none) 0 (some (E.2.1 + 186))) 1 (some (E.2.1 + 275)))))))), (181, .inl (E.2.2.1 4, 8, .inr (.inr (.inr (.inr (va_up (va_up (va_up (va_up (va_up (fun _ => none) 0 (some (E.2.1 + 364))) 1 (some (E.2.1 + 453))) 2 (some (E.2.1 + 542))) 3 (some (E.2.1 + 631))) 4 (some (E.2.1 + 720))))))))])) H := hP
  refine lv_iinc (v := 5) (lv' := [(1, .int 5), (0, .ref (E.2.1 + 0))]) hx hb dX6_init_145 hl (k := 0) rfl (by decide) (by decide) rfl (fun ls hl => ?_)
  refine lv_goto (tgt := 126) hx hb dX6_init_148 (by decide) ?_
  refine lv_iload_n hx hb dX6_init_126 rfl (lv_at hl 0 rfl) ?_
  refine lv_bipush (v := 8) hx hb dX6_init_127 (by decide) ?_
  refine lv_icmp_ge (tgt := 151) hx hb dX6_init_129 (by decide) (fun c9 => absurd c9 (by decide)) (fun _ => ?_)
  refine lv_aload_n hx hb dX6_init_132 rfl (lv_at hl 1 rfl) ?_
  refine x_get (ci := 6) B hP in6 rfl (by decide) sel_hd 4 (by decide) rfl mw_416 rfl dX6_init_133 ?_
  refine lv_iload_n hx hb dX6_init_136 rfl (lv_at hl 0 rfl) ?_
  refine x_new (ci := 5) (fs := [.null, .null, .null, .null, .int 0, .int 0, .int 0, .int 0, .int 0, .int 0]) tyX5 B hz hP hS in5 tyX5_ok rfl mw_71 mw_72 mw_53 (by decide) (Nat.le_of_ble_eq_true rfl) (Nat.le_of_ble_eq_true rfl) dX6_init_137 (fun H hz hP hS => ?_)
  rw [ct_push] at hP
  have hz : H.size = E.2.1 + (809 + 1) := hz
  refine W.cs (cells' := 809) (slots' := 8359) rfl rfl ?_
  refine lv_dup hx hb dX6_init_140 rfl ?_
  refine xcI B hz hP hS (k_X5_init l E _ 809 (by decide +kernel) sel_hd) mw_73 lkc_X5 hl.1 (Nat.le_of_ble_eq_true rfl) ⟨Nat.le_of_ble_eq_true rfl, Nat.le_of_ble_eq_true rfl⟩ ⟨Nat.le_of_ble_eq_true rfl, Nat.le_of_ble_eq_true rfl⟩ dX6_init_141 (fun H locs hz hP hS => ?_)
  rw [ct_call (List.forall_mem_cons.mpr ⟨(show 0 < 809 from (by decide)), List.forall_mem_cons.mpr ⟨(show 179 < 809 from (by decide)), List.forall_mem_cons.mpr ⟨(show 181 < 809 from (by decide)), fun _ h => absurd h List.not_mem_nil⟩⟩⟩) (by decide)] at hP
  have hz : H.size = E.2.1 + 898 := hz
  have hP : va_P E.1 vwCl (wl E 898 (ct E C 0 [(0, .inr (6, [.ref (E.2.1 + 1), .ref (E.2.1 + 90), .ref (E.2.1 + 179), .ref (E.2.1 + 180), .ref (E.2.1 + 181), .ref (E.2.1 + 182), .int 0, .int 0, .ref (E.2.1 + 183), .int 0, .ref (E.2.1 + 184), .ref (E.2.1 + 185)])), (179, .inl (E.2.2.1 4, 2, .inr (.inr (.inr (.inr (va_up (va_up (fun _ => none) 0 (some (E.2.1 + 186))) 1 (some (E.2.1 + 275)))))))), (181, .inl (E.2.2.1 4, 8, .inr (.inr (.inr (.inr (va_up (va_up (va_up (va_up (va_up (fun _ => none) 0 (some (E.2.1 + 364))) 1 (some (E.2.1 + 453))) 2 (some (E.2.1 + 542))) 3 (some (E.2.1 + 631))) 4 (some (E.2.1 + 720))))))))])) H := hP
  refine W.cs (cells' := 897) (slots' := 9153) rfl rfl ?_
  refine x_aast (ci := 5) (t0 := 4) (i0 := 5) B hz hP hS (by decide) ((sel_tl (by decide)).trans ((sel_tl (by decide)).trans sel_hd)) rfl (by decide) ((sel_tl (by decide)).trans ((sel_tl (by decide)).trans ((sel_tl (by decide)).trans ((if_neg (by decide)).trans (hcc5 _ _ (by decide +kernel)))))) rfl rfl (by decide) (by decide) dX6_init_144 (fun H locs hz hP hS => ?_)
  rw [ct_up2 (by decide) (by decide)] at hP
  have hz : H.size = E.2.1 + 898 := hz
  have hP : va_P E.1 vwCl (wl E 898 (ct E C 0 [(0, .inr (6, [.ref (E.2.1 + 1), .ref (E.2.1 + 90), .ref (E.2.1 + 179), .ref (E.2.1 + 180), .ref (E.2.1 + 181), .ref (E.2.1 + 182), .int 0, .int 0, .ref (E.2.1 + 183), .int 0, .ref (E.2.1 + 184), .ref (E.2.1 + 185)])), (179, .inl (E.2.2.1 4, 2, .inr (.inr (.inr (.inr (va_up (va_up (fun _ => none) 0 (some (E.2.1 + 186))) 1 (some (E.2.1 + 275)))))))), (181, .inl (E.2.2.1 4, 8, .inr (.inr (.inr (.inr (va_up (va_up (va_up (va_up (va_up (va_up (fun _ => none) 0 (some (E.2.1 + 364))) 1 (some (E.2.1 + 453))) 2 (some (E.2.1 + 542))) 3 (some (E.2.1 + 631))) 4 (some (E.2.1 + 720))) 5 (some (E.2.1 + 809))))))))])) H := hP
  refine lv_iinc (v := 6) (lv' := [(1, .int 6), (0, .ref (E.2.1 + 0))]) hx hb dX6_init_145 hl (k := 0) rfl (by decide) (by decide) rfl (fun ls hl => ?_)
  refine lv_goto (tgt := 126) hx hb dX6_init_148 (by decide) ?_
  refine lv_iload_n hx hb dX6_init_126 rfl (lv_at hl 0 rfl) ?_
  refine lv_bipush (v := 8) hx hb dX6_init_127 (by decide) ?_
  refine lv_icmp_ge (tgt := 151) hx hb dX6_init_129 (by decide) (fun c10 => absurd c10 (by decide)) (fun _ => ?_)
  refine lv_aload_n hx hb dX6_init_132 rfl (lv_at hl 1 rfl) ?_
  refine x_get (ci := 6) B hP in6 rfl (by decide) sel_hd 4 (by decide) rfl mw_416 rfl dX6_init_133 ?_
  refine lv_iload_n hx hb dX6_init_136 rfl (lv_at hl 0 rfl) ?_
  refine x_new (ci := 5) (fs := [.null, .null, .null, .null, .int 0, .int 0, .int 0, .int 0, .int 0, .int 0]) tyX5 B hz hP hS in5 tyX5_ok rfl mw_71 mw_72 mw_53 (by decide) (Nat.le_of_ble_eq_true rfl) (Nat.le_of_ble_eq_true rfl) dX6_init_137 (fun H hz hP hS => ?_)
  rw [ct_push] at hP
  have hz : H.size = E.2.1 + (898 + 1) := hz
  refine W.cs (cells' := 898) (slots' := 9163) rfl rfl ?_
  refine lv_dup hx hb dX6_init_140 rfl ?_
  refine xcI B hz hP hS (k_X5_init l E _ 898 (by decide +kernel) sel_hd) mw_73 lkc_X5 hl.1 (Nat.le_of_ble_eq_true rfl) ⟨Nat.le_of_ble_eq_true rfl, Nat.le_of_ble_eq_true rfl⟩ ⟨Nat.le_of_ble_eq_true rfl, Nat.le_of_ble_eq_true rfl⟩ dX6_init_141 (fun H locs hz hP hS => ?_)
  rw [ct_call (List.forall_mem_cons.mpr ⟨(show 0 < 898 from (by decide)), List.forall_mem_cons.mpr ⟨(show 179 < 898 from (by decide)), List.forall_mem_cons.mpr ⟨(show 181 < 898 from (by decide)), fun _ h => absurd h List.not_mem_nil⟩⟩⟩) (by decide)] at hP
  have hz : H.size = E.2.1 + 987 := hz
  have hP : va_P E.1 vwCl (wl E 987 (ct E C 0 [(0, .inr (6, [.ref (E.2.1 + 1), .ref (E.2.1 + 90), .ref (E.2.1 + 179), .ref (E.2.1 + 180), .ref (E.2.1 + 181), .ref (E.2.1 + 182), .int 0, .int 0, .ref (E.2.1 + 183), .int 0, .ref (E.2.1 + 184), .ref (E.2.1 + 185)])), (179, .inl (E.2.2.1 4, 2, .inr (.inr (.inr (.inr (va_up (va_up (fun _ => none) 0 (some (E.2.1 + 186))) 1 (some (E.2.1 + 275)))))))), (181, .inl (E.2.2.1 4, 8, .inr (.inr (.inr (.inr (va_up (va_up (va_up (va_up (va_up (va_up (fun _ => none) 0 (some (E.2.1 + 364))) 1 (some (E.2.1 + 453))) 2 (some (E.2.1 + 542))) 3 (some (E.2.1 + 631))) 4 (some (E.2.1 + 720))) 5 (some (E.2.1 + 809))))))))])) H := hP
  refine W.cs (cells' := 986) (slots' := 9957) rfl rfl ?_
  refine x_aast (ci := 5) (t0 := 4) (i0 := 6) B hz hP hS (by decide) ((sel_tl (by decide)).trans ((sel_tl (by decide)).trans sel_hd)) rfl (by decide) ((sel_tl (by decide)).trans ((sel_tl (by decide)).trans ((sel_tl (by decide)).trans ((if_neg (by decide)).trans (hcc5 _ _ (by decide +kernel)))))) rfl rfl (by decide) (by decide) dX6_init_144 (fun H locs hz hP hS => ?_)
  rw [ct_up2 (by decide) (by decide)] at hP
  have hz : H.size = E.2.1 + 987 := hz
  have hP : va_P E.1 vwCl (wl E 987 (ct E C 0 [(0, .inr (6, [.ref (E.2.1 + 1), .ref (E.2.1 + 90), .ref (E.2.1 + 179), .ref (E.2.1 + 180), .ref (E.2.1 + 181), .ref (E.2.1 + 182), .int 0, .int 0, .ref (E.2.1 + 183), .int 0, .ref (E.2.1 + 184), .ref (E.2.1 + 185)])), (179, .inl (E.2.2.1 4, 2, .inr (.inr (.inr (.inr (va_up (va_up (fun _ => none) 0 (some (E.2.1 + 186))) 1 (some (E.2.1 + 275)))))))), (181, .inl (E.2.2.1 4, 8, .inr (.inr (.inr (.inr (va_up (va_up (va_up (va_up (va_up (va_up (va_up (fun _ => none) 0 (some (E.2.1 + 364))) 1 (some (E.2.1 + 453))) 2 (some (E.2.1 + 542))) 3 (some (E.2.1 + 631))) 4 (some (E.2.1 + 720))) 5 (some (E.2.1 + 809))) 6 (some (E.2.1 + 898))))))))])) H := hP
  refine lv_iinc (v := 7) (lv' := [(1, .int 7), (0, .ref (E.2.1 + 0))]) hx hb dX6_init_145 hl (k := 0) rfl (by decide) (by decide) rfl (fun ls hl => ?_)
  refine lv_goto (tgt := 126) hx hb dX6_init_148 (by decide) ?_
  refine lv_iload_n hx hb dX6_init_126 rfl (lv_at hl 0 rfl) ?_
  refine lv_bipush (v := 8) hx hb dX6_init_127 (by decide) ?_
  refine lv_icmp_ge (tgt := 151) hx hb dX6_init_129 (by decide) (fun c11 => absurd c11 (by decide)) (fun _ => ?_)
  refine lv_aload_n hx hb dX6_init_132 rfl (lv_at hl 1 rfl) ?_
  refine x_get (ci := 6) B hP in6 rfl (by decide) sel_hd 4 (by decide) rfl mw_416 rfl dX6_init_133 ?_
  refine lv_iload_n hx hb dX6_init_136 rfl (lv_at hl 0 rfl) ?_
  refine x_new (ci := 5) (fs := [.null, .null, .null, .null, .int 0, .int 0, .int 0, .int 0, .int 0, .int 0]) tyX5 B hz hP hS in5 tyX5_ok rfl mw_71 mw_72 mw_53 (by decide) (Nat.le_of_ble_eq_true rfl) (Nat.le_of_ble_eq_true rfl) dX6_init_137 (fun H hz hP hS => ?_)
  rw [ct_push] at hP
  have hz : H.size = E.2.1 + (987 + 1) := hz
  refine W.cs (cells' := 987) (slots' := 9967) rfl rfl ?_
  refine lv_dup hx hb dX6_init_140 rfl ?_
  refine xcI B hz hP hS (k_X5_init l E _ 987 (by decide +kernel) sel_hd) mw_73 lkc_X5 hl.1 (Nat.le_of_ble_eq_true rfl) ⟨Nat.le_of_ble_eq_true rfl, Nat.le_of_ble_eq_true rfl⟩ ⟨Nat.le_of_ble_eq_true rfl, Nat.le_of_ble_eq_true rfl⟩ dX6_init_141 (fun H locs hz hP hS => ?_)
  rw [ct_call (List.forall_mem_cons.mpr ⟨(show 0 < 987 from (by decide)), List.forall_mem_cons.mpr ⟨(show 179 < 987 from (by decide)), List.forall_mem_cons.mpr ⟨(show 181 < 987 from (by decide)), fun _ h => absurd h List.not_mem_nil⟩⟩⟩) (by decide)] at hP
  have hz : H.size = E.2.1 + 1076 := hz
  have hP : va_P E.1 vwCl (wl E 1076 (ct E C 0 [(0, .inr (6, [.ref (E.2.1 + 1), .ref (E.2.1 + 90), .ref (E.2.1 + 179), .ref (E.2.1 + 180), .ref (E.2.1 + 181), .ref (E.2.1 + 182), .int 0, .int 0, .ref (E.2.1 + 183), .int 0, .ref (E.2.1 + 184), .ref (E.2.1 + 185)])), (179, .inl (E.2.2.1 4, 2, .inr (.inr (.inr (.inr (va_up (va_up (fun _ => none) 0 (some (E.2.1 + 186))) 1 (some (E.2.1 + 275)))))))), (181, .inl (E.2.2.1 4, 8, .inr (.inr (.inr (.inr (va_up (va_up (va_up (va_up (va_up (va_up (va_up (fun _ => none) 0 (some (E.2.1 + 364))) 1 (some (E.2.1 + 453))) 2 (some (E.2.1 + 542))) 3 (some (E.2.1 + 631))) 4 (some (E.2.1 + 720))) 5 (some (E.2.1 + 809))) 6 (some (E.2.1 + 898))))))))])) H := hP
  refine W.cs (cells' := 1075) (slots' := 10761) rfl rfl ?_
  refine x_aast (ci := 5) (t0 := 4) (i0 := 7) B hz hP hS (by decide) ((sel_tl (by decide)).trans ((sel_tl (by decide)).trans sel_hd)) rfl (by decide) ((sel_tl (by decide)).trans ((sel_tl (by decide)).trans ((sel_tl (by decide)).trans ((if_neg (by decide)).trans (hcc5 _ _ (by decide +kernel)))))) rfl rfl (by decide) (by decide) dX6_init_144 (fun H locs hz hP hS => ?_)
  rw [ct_up2 (by decide) (by decide)] at hP
  have hz : H.size = E.2.1 + 1076 := hz
  have hP : va_P E.1 vwCl (wl E 1076 (ct E C 0 [(0, .inr (6, [.ref (E.2.1 + 1), .ref (E.2.1 + 90), .ref (E.2.1 + 179), .ref (E.2.1 + 180), .ref (E.2.1 + 181), .ref (E.2.1 + 182), .int 0, .int 0, .ref (E.2.1 + 183), .int 0, .ref (E.2.1 + 184), .ref (E.2.1 + 185)])), (179, .inl (E.2.2.1 4, 2, .inr (.inr (.inr (.inr (va_up (va_up (fun _ => none) 0 (some (E.2.1 + 186))) 1 (some (E.2.1 + 275)))))))), (181, .inl (E.2.2.1 4, 8, .inr (.inr (.inr (.inr (va_up (va_up (va_up (va_up (va_up (va_up (va_up (va_up (fun _ => none) 0 (some (E.2.1 + 364))) 1 (some (E.2.1 + 453))) 2 (some (E.2.1 + 542))) 3 (some (E.2.1 + 631))) 4 (some (E.2.1 + 720))) 5 (some (E.2.1 + 809))) 6 (some (E.2.1 + 898))) 7 (some (E.2.1 + 987))))))))])) H := hP
  refine lv_iinc (v := 8) (lv' := [(1, .int 8), (0, .ref (E.2.1 + 0))]) hx hb dX6_init_145 hl (k := 0) rfl (by decide) (by decide) rfl (fun ls hl => ?_)
  refine lv_goto (tgt := 126) hx hb dX6_init_148 (by decide) ?_
  refine lv_iload_n hx hb dX6_init_126 rfl (lv_at hl 0 rfl) ?_
  refine lv_bipush (v := 8) hx hb dX6_init_127 (by decide) ?_
  refine lv_icmp_ge (tgt := 151) hx hb dX6_init_129 (by decide) (fun _ => ?_) (fun c12 => absurd c12 (by decide))
  have hP : va_P E.1 vwCl (wl E (0 + 1076) (fun j => if j < 0 then C j else hcc E j (r0 j))) H := by
    refine ct_end hP (List.forall_mem_cons.mpr ⟨(show 0 ≤ 0 from (by decide)), List.forall_mem_cons.mpr ⟨(show 0 ≤ 179 from (by decide)), List.forall_mem_cons.mpr ⟨(show 0 ≤ 181 from (by decide)), fun _ h => absurd h List.not_mem_nil⟩⟩⟩) (List.forall_mem_cons.mpr ⟨fun h0 => ?_, List.forall_mem_cons.mpr ⟨fun h0 => ?_, List.forall_mem_cons.mpr ⟨fun h0 => ?_, fun _ h => absurd h List.not_mem_nil⟩⟩⟩)
    · show va_at E.1 vwCl (E.2.1 + 0, hcc E 0 (r0 0)) H
      rw [hcc6 _ _ (show hk 0 = 6 by decide +kernel)]
      have e : fl6 E 0 (r0 0) = [.ref (E.2.1 + 1), .ref (E.2.1 + 90), .ref (E.2.1 + 179), .ref (E.2.1 + 180), .ref (E.2.1 + 181), .ref (E.2.1 + 182), .int 0, .int 0, .ref (E.2.1 + 183), .int 0, .ref (E.2.1 + 184), .ref (E.2.1 + 185)] := by simp [fl6, r0, (show hk 0 = 6 by decide +kernel)]
      rw [e]
      exact h0
    · show va_at E.1 vwCl (E.2.1 + 179, hcc E 179 (r0 179)) H
      rw [hcc12 _ _ (by decide +kernel), show hlen 179 = 2 by decide +kernel]
      refine va_at_q (fun i hi => ?_) h0
      rcases (show i = 0 ∨ i = 1 by omega) with rfl | rfl
      · rfl
      · rfl
    · show va_at E.1 vwCl (E.2.1 + 181, hcc E 181 (r0 181)) H
      rw [hcc12 _ _ (by decide +kernel), show hlen 181 = 8 by decide +kernel]
      refine va_at_q (fun i hi => ?_) h0
      rcases (show i = 0 ∨ i = 1 ∨ i = 2 ∨ i = 3 ∨ i = 4 ∨ i = 5 ∨ i = 6 ∨ i = 7 by omega) with rfl | rfl | rfl | rfl | rfl | rfl | rfl | rfl
      · rfl
      · rfl
      · rfl
      · rfl
      · rfl
      · rfl
      · rfl
      · rfl
  exact ret_c B hr hlk hz hP hS dX6_init_151

set_option maxHeartbeats 4000000 in
set_option maxRecDepth 100000 in
theorem k_X7_init (l : Launch) (E : hE) (C : Nat → va_E) (hC : C 1076 = .inr (7, [.int 0, .int 0, .null, .null, .null, .null, .int 0, .null, .null, .null, .null, .null, .null, .null, .null, .null, .int 0, .int 0])) : Met l yX7_init (.code yX7_init cX7_init 1 none :: gw_all) (rmc 1 13 8368 40) (xPre E C (1076 + 1) [.ref (E.2.1 + 1076)]) (xQ E (1076 + 14) (fun j => if j < 1076 then C j else hcc E j (r0 j))) 13 8368 (hA E) := by
  refine entC (own := RX7) (by decide) rfl rfl (Nat.le_of_ble_eq_true rfl) ?_
  intro p e s m below meth c ls B hr hlk hin hl hz hP hS
  have hx := B.1.1
  have hb := B.1.2.1
  have hown := B.1.2.2.2.1
  have hts := B.1.2.2.2.2
  have hml := B.1.2.2.1
  have hl : lv_has ls 1 [(0, .ref (E.2.1 + 1076))] := hl
  rw [ct_start hC] at hP
  refine lv_aload_n hx hb dX7_init_0 rfl (lv_at hl 0 rfl) ?_
  refine W.objInit hx hb hown (hts _ mw_1026) (hts _ mw_69) (hts _ mw_70) rfl (by rw [hml]; exact hl.1) rfl dX7_init_1 (Nat.le_of_ble_eq_true rfl) (Nat.le_of_ble_eq_true rfl) ?_
  refine W.eq (g2 := F0 m 4 ls []) rfl ?_
  refine lv_aload_n hx hb dX7_init_4 rfl (lv_at hl 0 rfl) ?_
  refine lv_bipush (v := 6) hx hb dX7_init_5 (by decide) ?_
  refine x_arrI (n0 := 6) B hz hP hS mw_109 (by decide) (by decide) (Nat.le_of_ble_eq_true rfl) (Nat.le_of_ble_eq_true rfl) (Nat.le_of_ble_eq_true rfl) dX7_init_7 (fun H hz hP hS => ?_)
  rw [ct_arr (List.forall_mem_cons.mpr ⟨(show 1076 < 1077 from (by decide)), fun _ h => absurd h List.not_mem_nil⟩) (by decide) (by rw [hcc8 _ _ (show hk 1077 = 8 from (by decide +kernel)), show hlen 1077 = 6 from (by decide +kernel), r0_fn8 (show hk 1077 = 8 from (by decide +kernel)) (by decide)])] at hP
  have hz : H.size = E.2.1 + 1078 := hz
  have hP : va_P E.1 vwCl (wl E 1078 (ct E C 1076 [(1076, .inr (7, [.int 0, .int 0, .null, .null, .null, .null, .int 0, .null, .null, .null, .null, .null, .null, .null, .null, .null, .int 0, .int 0]))])) H := hP
  refine W.cs (cells' := 1) (slots' := 6) rfl rfl ?_
  refine x_putF (ci := 7) tyX7 B hz hP hS in7 tyX7_ok nmX7 rfl (by decide) sel_hd 2 (by decide) rfl rfl mw_1029 rfl hin rfl rfl (Nat.lt_of_lt_of_le (show 2 < 18 by decide) (Nat.le_of_ble_eq_true rfl)) dX7_init_9 (fun H locs hz hP hS => ?_)
  rw [ct_up0] at hP
  have hz : H.size = E.2.1 + 1078 := hz
  have hP : va_P E.1 vwCl (wl E 1078 (ct E C 1076 [(1076, .inr (7, [.int 0, .int 0, .ref (E.2.1 + 1077), .null, .null, .null, .int 0, .null, .null, .null, .null, .null, .null, .null, .null, .null, .int 0, .int 0]))])) H := hP
  refine lv_aload_n hx hb dX7_init_12 rfl (lv_at hl 0 rfl) ?_
  refine lv_sipush (v := 695) hx hb dX7_init_13 (by decide) ?_
  refine x_arrI (n0 := 695) B hz hP hS mw_109 (by decide) (by decide) (Nat.le_of_ble_eq_true rfl) (Nat.le_of_ble_eq_true rfl) (Nat.le_of_ble_eq_true rfl) dX7_init_16 (fun H hz hP hS => ?_)
  rw [ct_push] at hP
  rw [ct_swap (by decide)] at hP
  have hz : H.size = E.2.1 + 1079 := hz
  have hP : va_P E.1 vwCl (wl E 1079 (ct E C 1076 [(1076, .inr (7, [.int 0, .int 0, .ref (E.2.1 + 1077), .null, .null, .null, .int 0, .null, .null, .null, .null, .null, .null, .null, .null, .null, .int 0, .int 0])), (1078, .inl (E.2.2.1 0, 695, .inl (fun _ => 0)))])) H := hP
  refine W.cs (cells' := 2) (slots' := 701) rfl rfl ?_
  refine x_putF (ci := 7) tyX7 B hz hP hS in7 tyX7_ok nmX7 rfl (by decide) sel_hd 3 (by decide) rfl rfl mw_1030 rfl hin rfl rfl (Nat.lt_of_lt_of_le (show 3 < 18 by decide) (Nat.le_of_ble_eq_true rfl)) dX7_init_18 (fun H locs hz hP hS => ?_)
  rw [ct_up0] at hP
  have hz : H.size = E.2.1 + 1079 := hz
  have hP : va_P E.1 vwCl (wl E 1079 (ct E C 1076 [(1076, .inr (7, [.int 0, .int 0, .ref (E.2.1 + 1077), .ref (E.2.1 + 1078), .null, .null, .int 0, .null, .null, .null, .null, .null, .null, .null, .null, .null, .int 0, .int 0])), (1078, .inl (E.2.2.1 0, 695, .inl (fun _ => 0)))])) H := hP
  refine lv_aload_n hx hb dX7_init_21 rfl (lv_at hl 0 rfl) ?_
  refine lv_sipush (v := 5560) hx hb dX7_init_22 (by decide) ?_
  refine x_arrI (n0 := 5560) B hz hP hS mw_109 (by decide) (by decide) (Nat.le_of_ble_eq_true rfl) (Nat.le_of_ble_eq_true rfl) (Nat.le_of_ble_eq_true rfl) dX7_init_25 (fun H hz hP hS => ?_)
  rw [ct_arr (List.forall_mem_cons.mpr ⟨(show 1076 < 1079 from (by decide)), List.forall_mem_cons.mpr ⟨(show 1078 < 1079 from (by decide)), fun _ h => absurd h List.not_mem_nil⟩⟩) (by decide) (by rw [hcc8 _ _ (show hk 1079 = 8 from (by decide +kernel)), show hlen 1079 = 5560 from (by decide +kernel), r0_fn8 (show hk 1079 = 8 from (by decide +kernel)) (by decide)])] at hP
  have hz : H.size = E.2.1 + 1080 := hz
  have hP : va_P E.1 vwCl (wl E 1080 (ct E C 1076 [(1076, .inr (7, [.int 0, .int 0, .ref (E.2.1 + 1077), .ref (E.2.1 + 1078), .null, .null, .int 0, .null, .null, .null, .null, .null, .null, .null, .null, .null, .int 0, .int 0])), (1078, .inl (E.2.2.1 0, 695, .inl (fun _ => 0)))])) H := hP
  refine W.cs (cells' := 3) (slots' := 6261) rfl rfl ?_
  refine x_putF (ci := 7) tyX7 B hz hP hS in7 tyX7_ok nmX7 rfl (by decide) sel_hd 4 (by decide) rfl rfl mw_1031 rfl hin rfl rfl (Nat.lt_of_lt_of_le (show 4 < 18 by decide) (Nat.le_of_ble_eq_true rfl)) dX7_init_27 (fun H locs hz hP hS => ?_)
  rw [ct_up0] at hP
  have hz : H.size = E.2.1 + 1080 := hz
  have hP : va_P E.1 vwCl (wl E 1080 (ct E C 1076 [(1076, .inr (7, [.int 0, .int 0, .ref (E.2.1 + 1077), .ref (E.2.1 + 1078), .ref (E.2.1 + 1079), .null, .int 0, .null, .null, .null, .null, .null, .null, .null, .null, .null, .int 0, .int 0])), (1078, .inl (E.2.2.1 0, 695, .inl (fun _ => 0)))])) H := hP
  refine lv_aload_n hx hb dX7_init_30 rfl (lv_at hl 0 rfl) ?_
  refine lv_bipush (v := 8) hx hb dX7_init_31 (by decide) ?_
  refine x_arrI (n0 := 8) B hz hP hS mw_109 (by decide) (by decide) (Nat.le_of_ble_eq_true rfl) (Nat.le_of_ble_eq_true rfl) (Nat.le_of_ble_eq_true rfl) dX7_init_33 (fun H hz hP hS => ?_)
  rw [ct_arr (List.forall_mem_cons.mpr ⟨(show 1076 < 1080 from (by decide)), List.forall_mem_cons.mpr ⟨(show 1078 < 1080 from (by decide)), fun _ h => absurd h List.not_mem_nil⟩⟩) (by decide) (by rw [hcc8 _ _ (show hk 1080 = 8 from (by decide +kernel)), show hlen 1080 = 8 from (by decide +kernel), r0_fn8 (show hk 1080 = 8 from (by decide +kernel)) (by decide)])] at hP
  have hz : H.size = E.2.1 + 1081 := hz
  have hP : va_P E.1 vwCl (wl E 1081 (ct E C 1076 [(1076, .inr (7, [.int 0, .int 0, .ref (E.2.1 + 1077), .ref (E.2.1 + 1078), .ref (E.2.1 + 1079), .null, .int 0, .null, .null, .null, .null, .null, .null, .null, .null, .null, .int 0, .int 0])), (1078, .inl (E.2.2.1 0, 695, .inl (fun _ => 0)))])) H := hP
  refine W.cs (cells' := 4) (slots' := 6269) rfl rfl ?_
  refine x_putF (ci := 7) tyX7 B hz hP hS in7 tyX7_ok nmX7 rfl (by decide) sel_hd 5 (by decide) rfl rfl mw_1032 rfl hin rfl rfl (Nat.lt_of_lt_of_le (show 5 < 18 by decide) (Nat.le_of_ble_eq_true rfl)) dX7_init_35 (fun H locs hz hP hS => ?_)
  rw [ct_up0] at hP
  have hz : H.size = E.2.1 + 1081 := hz
  have hP : va_P E.1 vwCl (wl E 1081 (ct E C 1076 [(1076, .inr (7, [.int 0, .int 0, .ref (E.2.1 + 1077), .ref (E.2.1 + 1078), .ref (E.2.1 + 1079), .ref (E.2.1 + 1080), .int 0, .null, .null, .null, .null, .null, .null, .null, .null, .null, .int 0, .int 0])), (1078, .inl (E.2.2.1 0, 695, .inl (fun _ => 0)))])) H := hP
  refine lv_aload_n hx hb dX7_init_38 rfl (lv_at hl 0 rfl) ?_
  refine lv_sipush (v := 1390) hx hb dX7_init_39 (by decide) ?_
  refine x_arrI (n0 := 1390) B hz hP hS mw_109 (by decide) (by decide) (Nat.le_of_ble_eq_true rfl) (Nat.le_of_ble_eq_true rfl) (Nat.le_of_ble_eq_true rfl) dX7_init_42 (fun H hz hP hS => ?_)
  rw [ct_arr (List.forall_mem_cons.mpr ⟨(show 1076 < 1081 from (by decide)), List.forall_mem_cons.mpr ⟨(show 1078 < 1081 from (by decide)), fun _ h => absurd h List.not_mem_nil⟩⟩) (by decide) (by rw [hcc8 _ _ (show hk 1081 = 8 from (by decide +kernel)), show hlen 1081 = 1390 from (by decide +kernel), r0_fn8 (show hk 1081 = 8 from (by decide +kernel)) (by decide)])] at hP
  have hz : H.size = E.2.1 + 1082 := hz
  have hP : va_P E.1 vwCl (wl E 1082 (ct E C 1076 [(1076, .inr (7, [.int 0, .int 0, .ref (E.2.1 + 1077), .ref (E.2.1 + 1078), .ref (E.2.1 + 1079), .ref (E.2.1 + 1080), .int 0, .null, .null, .null, .null, .null, .null, .null, .null, .null, .int 0, .int 0])), (1078, .inl (E.2.2.1 0, 695, .inl (fun _ => 0)))])) H := hP
  refine W.cs (cells' := 5) (slots' := 7659) rfl rfl ?_
  refine x_putF (ci := 7) tyX7 B hz hP hS in7 tyX7_ok nmX7 rfl (by decide) sel_hd 7 (by decide) rfl rfl mw_1034 rfl hin rfl rfl (Nat.lt_of_lt_of_le (show 7 < 18 by decide) (Nat.le_of_ble_eq_true rfl)) dX7_init_44 (fun H locs hz hP hS => ?_)
  rw [ct_up0] at hP
  have hz : H.size = E.2.1 + 1082 := hz
  have hP : va_P E.1 vwCl (wl E 1082 (ct E C 1076 [(1076, .inr (7, [.int 0, .int 0, .ref (E.2.1 + 1077), .ref (E.2.1 + 1078), .ref (E.2.1 + 1079), .ref (E.2.1 + 1080), .int 0, .ref (E.2.1 + 1081), .null, .null, .null, .null, .null, .null, .null, .null, .int 0, .int 0])), (1078, .inl (E.2.2.1 0, 695, .inl (fun _ => 0)))])) H := hP
  refine lv_aload_n hx hb dX7_init_47 rfl (lv_at hl 0 rfl) ?_
  refine lv_iconst (v := 2) hx hb dX7_init_48 (by decide) ?_
  refine x_arrZ (n0 := 2) B hz hP hS mw_449 (by decide) (by decide) (Nat.le_of_ble_eq_true rfl) (Nat.le_of_ble_eq_true rfl) (Nat.le_of_ble_eq_true rfl) dX7_init_49 (fun H hz hP hS => ?_)
  rw [ct_arr (List.forall_mem_cons.mpr ⟨(show 1076 < 1082 from (by decide)), List.forall_mem_cons.mpr ⟨(show 1078 < 1082 from (by decide)), fun _ h => absurd h List.not_mem_nil⟩⟩) (by decide) (by rw [hcc9 _ _ (show hk 1082 = 9 from (by decide +kernel)), show hlen 1082 = 2 from (by decide +kernel), r0_fn9 (show hk 1082 = 9 from (by decide +kernel)) (by decide)])] at hP
  have hz : H.size = E.2.1 + 1083 := hz
  have hP : va_P E.1 vwCl (wl E 1083 (ct E C 1076 [(1076, .inr (7, [.int 0, .int 0, .ref (E.2.1 + 1077), .ref (E.2.1 + 1078), .ref (E.2.1 + 1079), .ref (E.2.1 + 1080), .int 0, .ref (E.2.1 + 1081), .null, .null, .null, .null, .null, .null, .null, .null, .int 0, .int 0])), (1078, .inl (E.2.2.1 0, 695, .inl (fun _ => 0)))])) H := hP
  refine W.cs (cells' := 6) (slots' := 7661) rfl rfl ?_
  refine x_putF (ci := 7) tyX7 B hz hP hS in7 tyX7_ok nmX7 rfl (by decide) sel_hd 8 (by decide) rfl rfl mw_1035 rfl hin rfl rfl (Nat.lt_of_lt_of_le (show 8 < 18 by decide) (Nat.le_of_ble_eq_true rfl)) dX7_init_51 (fun H locs hz hP hS => ?_)
  rw [ct_up0] at hP
  have hz : H.size = E.2.1 + 1083 := hz
  have hP : va_P E.1 vwCl (wl E 1083 (ct E C 1076 [(1076, .inr (7, [.int 0, .int 0, .ref (E.2.1 + 1077), .ref (E.2.1 + 1078), .ref (E.2.1 + 1079), .ref (E.2.1 + 1080), .int 0, .ref (E.2.1 + 1081), .ref (E.2.1 + 1082), .null, .null, .null, .null, .null, .null, .null, .int 0, .int 0])), (1078, .inl (E.2.2.1 0, 695, .inl (fun _ => 0)))])) H := hP
  refine lv_aload_n hx hb dX7_init_54 rfl (lv_at hl 0 rfl) ?_
  refine lv_sipush (v := 695) hx hb dX7_init_55 (by decide) ?_
  refine x_arrI (n0 := 695) B hz hP hS mw_109 (by decide) (by decide) (Nat.le_of_ble_eq_true rfl) (Nat.le_of_ble_eq_true rfl) (Nat.le_of_ble_eq_true rfl) dX7_init_58 (fun H hz hP hS => ?_)
  rw [ct_arr (List.forall_mem_cons.mpr ⟨(show 1076 < 1083 from (by decide)), List.forall_mem_cons.mpr ⟨(show 1078 < 1083 from (by decide)), fun _ h => absurd h List.not_mem_nil⟩⟩) (by decide) (by rw [hcc8 _ _ (show hk 1083 = 8 from (by decide +kernel)), show hlen 1083 = 695 from (by decide +kernel), r0_fn8 (show hk 1083 = 8 from (by decide +kernel)) (by decide)])] at hP
  have hz : H.size = E.2.1 + 1084 := hz
  have hP : va_P E.1 vwCl (wl E 1084 (ct E C 1076 [(1076, .inr (7, [.int 0, .int 0, .ref (E.2.1 + 1077), .ref (E.2.1 + 1078), .ref (E.2.1 + 1079), .ref (E.2.1 + 1080), .int 0, .ref (E.2.1 + 1081), .ref (E.2.1 + 1082), .null, .null, .null, .null, .null, .null, .null, .int 0, .int 0])), (1078, .inl (E.2.2.1 0, 695, .inl (fun _ => 0)))])) H := hP
  refine W.cs (cells' := 7) (slots' := 8356) rfl rfl ?_
  refine x_putF (ci := 7) tyX7 B hz hP hS in7 tyX7_ok nmX7 rfl (by decide) sel_hd 9 (by decide) rfl rfl mw_1036 rfl hin rfl rfl (Nat.lt_of_lt_of_le (show 9 < 18 by decide) (Nat.le_of_ble_eq_true rfl)) dX7_init_60 (fun H locs hz hP hS => ?_)
  rw [ct_up0] at hP
  have hz : H.size = E.2.1 + 1084 := hz
  have hP : va_P E.1 vwCl (wl E 1084 (ct E C 1076 [(1076, .inr (7, [.int 0, .int 0, .ref (E.2.1 + 1077), .ref (E.2.1 + 1078), .ref (E.2.1 + 1079), .ref (E.2.1 + 1080), .int 0, .ref (E.2.1 + 1081), .ref (E.2.1 + 1082), .ref (E.2.1 + 1083), .null, .null, .null, .null, .null, .null, .int 0, .int 0])), (1078, .inl (E.2.2.1 0, 695, .inl (fun _ => 0)))])) H := hP
  refine lv_aload_n hx hb dX7_init_63 rfl (lv_at hl 0 rfl) ?_
  refine lv_iconst (v := 2) hx hb dX7_init_64 (by decide) ?_
  refine x_arrI (n0 := 2) B hz hP hS mw_109 (by decide) (by decide) (Nat.le_of_ble_eq_true rfl) (Nat.le_of_ble_eq_true rfl) (Nat.le_of_ble_eq_true rfl) dX7_init_65 (fun H hz hP hS => ?_)
  rw [ct_arr (List.forall_mem_cons.mpr ⟨(show 1076 < 1084 from (by decide)), List.forall_mem_cons.mpr ⟨(show 1078 < 1084 from (by decide)), fun _ h => absurd h List.not_mem_nil⟩⟩) (by decide) (by rw [hcc8 _ _ (show hk 1084 = 8 from (by decide +kernel)), show hlen 1084 = 2 from (by decide +kernel), r0_fn8 (show hk 1084 = 8 from (by decide +kernel)) (by decide)])] at hP
  have hz : H.size = E.2.1 + 1085 := hz
  have hP : va_P E.1 vwCl (wl E 1085 (ct E C 1076 [(1076, .inr (7, [.int 0, .int 0, .ref (E.2.1 + 1077), .ref (E.2.1 + 1078), .ref (E.2.1 + 1079), .ref (E.2.1 + 1080), .int 0, .ref (E.2.1 + 1081), .ref (E.2.1 + 1082), .ref (E.2.1 + 1083), .null, .null, .null, .null, .null, .null, .int 0, .int 0])), (1078, .inl (E.2.2.1 0, 695, .inl (fun _ => 0)))])) H := hP
  refine W.cs (cells' := 8) (slots' := 8358) rfl rfl ?_
  refine x_putF (ci := 7) tyX7 B hz hP hS in7 tyX7_ok nmX7 rfl (by decide) sel_hd 10 (by decide) rfl rfl mw_1037 rfl hin rfl rfl (Nat.lt_of_lt_of_le (show 10 < 18 by decide) (Nat.le_of_ble_eq_true rfl)) dX7_init_67 (fun H locs hz hP hS => ?_)
  rw [ct_up0] at hP
  have hz : H.size = E.2.1 + 1085 := hz
  have hP : va_P E.1 vwCl (wl E 1085 (ct E C 1076 [(1076, .inr (7, [.int 0, .int 0, .ref (E.2.1 + 1077), .ref (E.2.1 + 1078), .ref (E.2.1 + 1079), .ref (E.2.1 + 1080), .int 0, .ref (E.2.1 + 1081), .ref (E.2.1 + 1082), .ref (E.2.1 + 1083), .ref (E.2.1 + 1084), .null, .null, .null, .null, .null, .int 0, .int 0])), (1078, .inl (E.2.2.1 0, 695, .inl (fun _ => 0)))])) H := hP
  refine lv_aload_n hx hb dX7_init_70 rfl (lv_at hl 0 rfl) ?_
  refine lv_iconst (v := 2) hx hb dX7_init_71 (by decide) ?_
  refine x_arrI (n0 := 2) B hz hP hS mw_109 (by decide) (by decide) (Nat.le_of_ble_eq_true rfl) (Nat.le_of_ble_eq_true rfl) (Nat.le_of_ble_eq_true rfl) dX7_init_72 (fun H hz hP hS => ?_)
  rw [ct_arr (List.forall_mem_cons.mpr ⟨(show 1076 < 1085 from (by decide)), List.forall_mem_cons.mpr ⟨(show 1078 < 1085 from (by decide)), fun _ h => absurd h List.not_mem_nil⟩⟩) (by decide) (by rw [hcc8 _ _ (show hk 1085 = 8 from (by decide +kernel)), show hlen 1085 = 2 from (by decide +kernel), r0_fn8 (show hk 1085 = 8 from (by decide +kernel)) (by decide)])] at hP
  have hz : H.size = E.2.1 + 1086 := hz
  have hP : va_P E.1 vwCl (wl E 1086 (ct E C 1076 [(1076, .inr (7, [.int 0, .int 0, .ref (E.2.1 + 1077), .ref (E.2.1 + 1078), .ref (E.2.1 + 1079), .ref (E.2.1 + 1080), .int 0, .ref (E.2.1 + 1081), .ref (E.2.1 + 1082), .ref (E.2.1 + 1083), .ref (E.2.1 + 1084), .null, .null, .null, .null, .null, .int 0, .int 0])), (1078, .inl (E.2.2.1 0, 695, .inl (fun _ => 0)))])) H := hP
  refine W.cs (cells' := 9) (slots' := 8360) rfl rfl ?_
  refine x_putF (ci := 7) tyX7 B hz hP hS in7 tyX7_ok nmX7 rfl (by decide) sel_hd 11 (by decide) rfl rfl mw_1038 rfl hin rfl rfl (Nat.lt_of_lt_of_le (show 11 < 18 by decide) (Nat.le_of_ble_eq_true rfl)) dX7_init_74 (fun H locs hz hP hS => ?_)
  rw [ct_up0] at hP
  have hz : H.size = E.2.1 + 1086 := hz
  have hP : va_P E.1 vwCl (wl E 1086 (ct E C 1076 [(1076, .inr (7, [.int 0, .int 0, .ref (E.2.1 + 1077), .ref (E.2.1 + 1078), .ref (E.2.1 + 1079), .ref (E.2.1 + 1080), .int 0, .ref (E.2.1 + 1081), .ref (E.2.1 + 1082), .ref (E.2.1 + 1083), .ref (E.2.1 + 1084), .ref (E.2.1 + 1085), .null, .null, .null, .null, .int 0, .int 0])), (1078, .inl (E.2.2.1 0, 695, .inl (fun _ => 0)))])) H := hP
  refine lv_aload_n hx hb dX7_init_77 rfl (lv_at hl 0 rfl) ?_
  refine lv_iconst (v := 2) hx hb dX7_init_78 (by decide) ?_
  refine x_arrI (n0 := 2) B hz hP hS mw_109 (by decide) (by decide) (Nat.le_of_ble_eq_true rfl) (Nat.le_of_ble_eq_true rfl) (Nat.le_of_ble_eq_true rfl) dX7_init_79 (fun H hz hP hS => ?_)
  rw [ct_arr (List.forall_mem_cons.mpr ⟨(show 1076 < 1086 from (by decide)), List.forall_mem_cons.mpr ⟨(show 1078 < 1086 from (by decide)), fun _ h => absurd h List.not_mem_nil⟩⟩) (by decide) (by rw [hcc8 _ _ (show hk 1086 = 8 from (by decide +kernel)), show hlen 1086 = 2 from (by decide +kernel), r0_fn8 (show hk 1086 = 8 from (by decide +kernel)) (by decide)])] at hP
  have hz : H.size = E.2.1 + 1087 := hz
  have hP : va_P E.1 vwCl (wl E 1087 (ct E C 1076 [(1076, .inr (7, [.int 0, .int 0, .ref (E.2.1 + 1077), .ref (E.2.1 + 1078), .ref (E.2.1 + 1079), .ref (E.2.1 + 1080), .int 0, .ref (E.2.1 + 1081), .ref (E.2.1 + 1082), .ref (E.2.1 + 1083), .ref (E.2.1 + 1084), .ref (E.2.1 + 1085), .null, .null, .null, .null, .int 0, .int 0])), (1078, .inl (E.2.2.1 0, 695, .inl (fun _ => 0)))])) H := hP
  refine W.cs (cells' := 10) (slots' := 8362) rfl rfl ?_
  refine x_putF (ci := 7) tyX7 B hz hP hS in7 tyX7_ok nmX7 rfl (by decide) sel_hd 12 (by decide) rfl rfl mw_1039 rfl hin rfl rfl (Nat.lt_of_lt_of_le (show 12 < 18 by decide) (Nat.le_of_ble_eq_true rfl)) dX7_init_81 (fun H locs hz hP hS => ?_)
  rw [ct_up0] at hP
  have hz : H.size = E.2.1 + 1087 := hz
  have hP : va_P E.1 vwCl (wl E 1087 (ct E C 1076 [(1076, .inr (7, [.int 0, .int 0, .ref (E.2.1 + 1077), .ref (E.2.1 + 1078), .ref (E.2.1 + 1079), .ref (E.2.1 + 1080), .int 0, .ref (E.2.1 + 1081), .ref (E.2.1 + 1082), .ref (E.2.1 + 1083), .ref (E.2.1 + 1084), .ref (E.2.1 + 1085), .ref (E.2.1 + 1086), .null, .null, .null, .int 0, .int 0])), (1078, .inl (E.2.2.1 0, 695, .inl (fun _ => 0)))])) H := hP
  refine lv_aload_n hx hb dX7_init_84 rfl (lv_at hl 0 rfl) ?_
  refine lv_iconst (v := 2) hx hb dX7_init_85 (by decide) ?_
  refine x_arrZ (n0 := 2) B hz hP hS mw_449 (by decide) (by decide) (Nat.le_of_ble_eq_true rfl) (Nat.le_of_ble_eq_true rfl) (Nat.le_of_ble_eq_true rfl) dX7_init_86 (fun H hz hP hS => ?_)
  rw [ct_arr (List.forall_mem_cons.mpr ⟨(show 1076 < 1087 from (by decide)), List.forall_mem_cons.mpr ⟨(show 1078 < 1087 from (by decide)), fun _ h => absurd h List.not_mem_nil⟩⟩) (by decide) (by rw [hcc9 _ _ (show hk 1087 = 9 from (by decide +kernel)), show hlen 1087 = 2 from (by decide +kernel), r0_fn9 (show hk 1087 = 9 from (by decide +kernel)) (by decide)])] at hP
  have hz : H.size = E.2.1 + 1088 := hz
  have hP : va_P E.1 vwCl (wl E 1088 (ct E C 1076 [(1076, .inr (7, [.int 0, .int 0, .ref (E.2.1 + 1077), .ref (E.2.1 + 1078), .ref (E.2.1 + 1079), .ref (E.2.1 + 1080), .int 0, .ref (E.2.1 + 1081), .ref (E.2.1 + 1082), .ref (E.2.1 + 1083), .ref (E.2.1 + 1084), .ref (E.2.1 + 1085), .ref (E.2.1 + 1086), .null, .null, .null, .int 0, .int 0])), (1078, .inl (E.2.2.1 0, 695, .inl (fun _ => 0)))])) H := hP
  refine W.cs (cells' := 11) (slots' := 8364) rfl rfl ?_
  refine x_putF (ci := 7) tyX7 B hz hP hS in7 tyX7_ok nmX7 rfl (by decide) sel_hd 13 (by decide) rfl rfl mw_1040 rfl hin rfl rfl (Nat.lt_of_lt_of_le (show 13 < 18 by decide) (Nat.le_of_ble_eq_true rfl)) dX7_init_88 (fun H locs hz hP hS => ?_)
  rw [ct_up0] at hP
  have hz : H.size = E.2.1 + 1088 := hz
  have hP : va_P E.1 vwCl (wl E 1088 (ct E C 1076 [(1076, .inr (7, [.int 0, .int 0, .ref (E.2.1 + 1077), .ref (E.2.1 + 1078), .ref (E.2.1 + 1079), .ref (E.2.1 + 1080), .int 0, .ref (E.2.1 + 1081), .ref (E.2.1 + 1082), .ref (E.2.1 + 1083), .ref (E.2.1 + 1084), .ref (E.2.1 + 1085), .ref (E.2.1 + 1086), .ref (E.2.1 + 1087), .null, .null, .int 0, .int 0])), (1078, .inl (E.2.2.1 0, 695, .inl (fun _ => 0)))])) H := hP
  refine lv_aload_n hx hb dX7_init_91 rfl (lv_at hl 0 rfl) ?_
  refine lv_iconst (v := 2) hx hb dX7_init_92 (by decide) ?_
  refine x_arrZ (n0 := 2) B hz hP hS mw_449 (by decide) (by decide) (Nat.le_of_ble_eq_true rfl) (Nat.le_of_ble_eq_true rfl) (Nat.le_of_ble_eq_true rfl) dX7_init_93 (fun H hz hP hS => ?_)
  rw [ct_arr (List.forall_mem_cons.mpr ⟨(show 1076 < 1088 from (by decide)), List.forall_mem_cons.mpr ⟨(show 1078 < 1088 from (by decide)), fun _ h => absurd h List.not_mem_nil⟩⟩) (by decide) (by rw [hcc9 _ _ (show hk 1088 = 9 from (by decide +kernel)), show hlen 1088 = 2 from (by decide +kernel), r0_fn9 (show hk 1088 = 9 from (by decide +kernel)) (by decide)])] at hP
  have hz : H.size = E.2.1 + 1089 := hz
  have hP : va_P E.1 vwCl (wl E 1089 (ct E C 1076 [(1076, .inr (7, [.int 0, .int 0, .ref (E.2.1 + 1077), .ref (E.2.1 + 1078), .ref (E.2.1 + 1079), .ref (E.2.1 + 1080), .int 0, .ref (E.2.1 + 1081), .ref (E.2.1 + 1082), .ref (E.2.1 + 1083), .ref (E.2.1 + 1084), .ref (E.2.1 + 1085), .ref (E.2.1 + 1086), .ref (E.2.1 + 1087), .null, .null, .int 0, .int 0])), (1078, .inl (E.2.2.1 0, 695, .inl (fun _ => 0)))])) H := hP
  refine W.cs (cells' := 12) (slots' := 8366) rfl rfl ?_
  refine x_putF (ci := 7) tyX7 B hz hP hS in7 tyX7_ok nmX7 rfl (by decide) sel_hd 14 (by decide) rfl rfl mw_1041 rfl hin rfl rfl (Nat.lt_of_lt_of_le (show 14 < 18 by decide) (Nat.le_of_ble_eq_true rfl)) dX7_init_95 (fun H locs hz hP hS => ?_)
  rw [ct_up0] at hP
  have hz : H.size = E.2.1 + 1089 := hz
  have hP : va_P E.1 vwCl (wl E 1089 (ct E C 1076 [(1076, .inr (7, [.int 0, .int 0, .ref (E.2.1 + 1077), .ref (E.2.1 + 1078), .ref (E.2.1 + 1079), .ref (E.2.1 + 1080), .int 0, .ref (E.2.1 + 1081), .ref (E.2.1 + 1082), .ref (E.2.1 + 1083), .ref (E.2.1 + 1084), .ref (E.2.1 + 1085), .ref (E.2.1 + 1086), .ref (E.2.1 + 1087), .ref (E.2.1 + 1088), .null, .int 0, .int 0])), (1078, .inl (E.2.2.1 0, 695, .inl (fun _ => 0)))])) H := hP
  refine lv_aload_n hx hb dX7_init_98 rfl (lv_at hl 0 rfl) ?_
  refine lv_iconst (v := 2) hx hb dX7_init_99 (by decide) ?_
  refine x_arrZ (n0 := 2) B hz hP hS mw_449 (by decide) (by decide) (Nat.le_of_ble_eq_true rfl) (Nat.le_of_ble_eq_true rfl) (Nat.le_of_ble_eq_true rfl) dX7_init_100 (fun H hz hP hS => ?_)
  rw [ct_arr (List.forall_mem_cons.mpr ⟨(show 1076 < 1089 from (by decide)), List.forall_mem_cons.mpr ⟨(show 1078 < 1089 from (by decide)), fun _ h => absurd h List.not_mem_nil⟩⟩) (by decide) (by rw [hcc9 _ _ (show hk 1089 = 9 from (by decide +kernel)), show hlen 1089 = 2 from (by decide +kernel), r0_fn9 (show hk 1089 = 9 from (by decide +kernel)) (by decide)])] at hP
  have hz : H.size = E.2.1 + 1090 := hz
  have hP : va_P E.1 vwCl (wl E 1090 (ct E C 1076 [(1076, .inr (7, [.int 0, .int 0, .ref (E.2.1 + 1077), .ref (E.2.1 + 1078), .ref (E.2.1 + 1079), .ref (E.2.1 + 1080), .int 0, .ref (E.2.1 + 1081), .ref (E.2.1 + 1082), .ref (E.2.1 + 1083), .ref (E.2.1 + 1084), .ref (E.2.1 + 1085), .ref (E.2.1 + 1086), .ref (E.2.1 + 1087), .ref (E.2.1 + 1088), .null, .int 0, .int 0])), (1078, .inl (E.2.2.1 0, 695, .inl (fun _ => 0)))])) H := hP
  refine W.cs (cells' := 13) (slots' := 8368) rfl rfl ?_
  refine x_putF (ci := 7) tyX7 B hz hP hS in7 tyX7_ok nmX7 rfl (by decide) sel_hd 15 (by decide) rfl rfl mw_1042 rfl hin rfl rfl (Nat.lt_of_lt_of_le (show 15 < 18 by decide) (Nat.le_of_ble_eq_true rfl)) dX7_init_102 (fun H locs hz hP hS => ?_)
  rw [ct_up0] at hP
  have hz : H.size = E.2.1 + 1090 := hz
  have hP : va_P E.1 vwCl (wl E 1090 (ct E C 1076 [(1076, .inr (7, [.int 0, .int 0, .ref (E.2.1 + 1077), .ref (E.2.1 + 1078), .ref (E.2.1 + 1079), .ref (E.2.1 + 1080), .int 0, .ref (E.2.1 + 1081), .ref (E.2.1 + 1082), .ref (E.2.1 + 1083), .ref (E.2.1 + 1084), .ref (E.2.1 + 1085), .ref (E.2.1 + 1086), .ref (E.2.1 + 1087), .ref (E.2.1 + 1088), .ref (E.2.1 + 1089), .int 0, .int 0])), (1078, .inl (E.2.2.1 0, 695, .inl (fun _ => 0)))])) H := hP
  refine lv_aload_n hx hb dX7_init_105 rfl (lv_at hl 0 rfl) ?_
  refine x_get (ci := 7) B hP in7 rfl (by decide) sel_hd 3 (by decide) rfl mw_1030 rfl dX7_init_106 ?_
  refine lv_bipush (v := 8) hx hb dX7_init_109 (by decide) ?_
  refine lv_iconst (v := 1) hx hb dX7_init_111 (by decide) ?_
  refine x_iast (i0 := 8) B hz hP hS (by decide) ((sel_tl (by decide)).trans sel_hd) rfl (by decide) (by decide) dX7_init_112 (fun H locs hz hP hS => ?_)
  rw [ct_up1 (by decide)] at hP
  have hz : H.size = E.2.1 + 1090 := hz
  have hP : va_P E.1 vwCl (wl E 1090 (ct E C 1076 [(1076, .inr (7, [.int 0, .int 0, .ref (E.2.1 + 1077), .ref (E.2.1 + 1078), .ref (E.2.1 + 1079), .ref (E.2.1 + 1080), .int 0, .ref (E.2.1 + 1081), .ref (E.2.1 + 1082), .ref (E.2.1 + 1083), .ref (E.2.1 + 1084), .ref (E.2.1 + 1085), .ref (E.2.1 + 1086), .ref (E.2.1 + 1087), .ref (E.2.1 + 1088), .ref (E.2.1 + 1089), .int 0, .int 0])), (1078, .inl (E.2.2.1 0, 695, .inl (upd (fun _ => 0) 8 1)))])) H := hP
  refine lv_aload_n hx hb dX7_init_113 rfl (lv_at hl 0 rfl) ?_
  refine x_get (ci := 7) B hP in7 rfl (by decide) sel_hd 3 (by decide) rfl mw_1030 rfl dX7_init_114 ?_
  refine lv_bipush (v := 9) hx hb dX7_init_117 (by decide) ?_
  refine lv_bipush (v := 16) hx hb dX7_init_119 (by decide) ?_
  refine x_iast (i0 := 9) B hz hP hS (by decide) ((sel_tl (by decide)).trans sel_hd) rfl (by decide) (by decide) dX7_init_121 (fun H locs hz hP hS => ?_)
  rw [ct_up1 (by decide)] at hP
  have hz : H.size = E.2.1 + 1090 := hz
  have hP : va_P E.1 vwCl (wl E 1090 (ct E C 1076 [(1076, .inr (7, [.int 0, .int 0, .ref (E.2.1 + 1077), .ref (E.2.1 + 1078), .ref (E.2.1 + 1079), .ref (E.2.1 + 1080), .int 0, .ref (E.2.1 + 1081), .ref (E.2.1 + 1082), .ref (E.2.1 + 1083), .ref (E.2.1 + 1084), .ref (E.2.1 + 1085), .ref (E.2.1 + 1086), .ref (E.2.1 + 1087), .ref (E.2.1 + 1088), .ref (E.2.1 + 1089), .int 0, .int 0])), (1078, .inl (E.2.2.1 0, 695, .inl (upd (upd (fun _ => 0) 8 1) 9 16)))])) H := hP
  refine lv_aload_n hx hb dX7_init_122 rfl (lv_at hl 0 rfl) ?_
  refine x_get (ci := 7) B hP in7 rfl (by decide) sel_hd 3 (by decide) rfl mw_1030 rfl dX7_init_123 ?_
  refine lv_bipush (v := 10) hx hb dX7_init_126 (by decide) ?_
  refine lv_iconst (v := 2) hx hb dX7_init_128 (by decide) ?_
  refine x_iast (i0 := 10) B hz hP hS (by decide) ((sel_tl (by decide)).trans sel_hd) rfl (by decide) (by decide) dX7_init_129 (fun H locs hz hP hS => ?_)
  rw [ct_up1 (by decide)] at hP
  have hz : H.size = E.2.1 + 1090 := hz
  have hP : va_P E.1 vwCl (wl E 1090 (ct E C 1076 [(1076, .inr (7, [.int 0, .int 0, .ref (E.2.1 + 1077), .ref (E.2.1 + 1078), .ref (E.2.1 + 1079), .ref (E.2.1 + 1080), .int 0, .ref (E.2.1 + 1081), .ref (E.2.1 + 1082), .ref (E.2.1 + 1083), .ref (E.2.1 + 1084), .ref (E.2.1 + 1085), .ref (E.2.1 + 1086), .ref (E.2.1 + 1087), .ref (E.2.1 + 1088), .ref (E.2.1 + 1089), .int 0, .int 0])), (1078, .inl (E.2.2.1 0, 695, .inl (upd (upd (upd (fun _ => 0) 8 1) 9 16) 10 2)))])) H := hP
  refine lv_aload_n hx hb dX7_init_130 rfl (lv_at hl 0 rfl) ?_
  refine x_get (ci := 7) B hP in7 rfl (by decide) sel_hd 3 (by decide) rfl mw_1030 rfl dX7_init_131 ?_
  refine lv_bipush (v := 42) hx hb dX7_init_134 (by decide) ?_
  refine lv_iconst (v := (-1)) hx hb dX7_init_136 (by decide) ?_
  refine x_iast (i0 := 42) B hz hP hS (by decide) ((sel_tl (by decide)).trans sel_hd) rfl (by decide) (by decide) dX7_init_137 (fun H locs hz hP hS => ?_)
  rw [ct_up1 (by decide)] at hP
  have hz : H.size = E.2.1 + 1090 := hz
  have hP : va_P E.1 vwCl (wl E 1090 (ct E C 1076 [(1076, .inr (7, [.int 0, .int 0, .ref (E.2.1 + 1077), .ref (E.2.1 + 1078), .ref (E.2.1 + 1079), .ref (E.2.1 + 1080), .int 0, .ref (E.2.1 + 1081), .ref (E.2.1 + 1082), .ref (E.2.1 + 1083), .ref (E.2.1 + 1084), .ref (E.2.1 + 1085), .ref (E.2.1 + 1086), .ref (E.2.1 + 1087), .ref (E.2.1 + 1088), .ref (E.2.1 + 1089), .int 0, .int 0])), (1078, .inl (E.2.2.1 0, 695, .inl (upd (upd (upd (upd (fun _ => 0) 8 1) 9 16) 10 2) 42 (-1))))])) H := hP
  refine lv_aload_n hx hb dX7_init_138 rfl (lv_at hl 0 rfl) ?_
  refine x_get (ci := 7) B hP in7 rfl (by decide) sel_hd 3 (by decide) rfl mw_1030 rfl dX7_init_139 ?_
  refine lv_sipush (v := 368) hx hb dX7_init_142 (by decide) ?_
  refine lv_iconst (v := (-1)) hx hb dX7_init_145 (by decide) ?_
  refine x_iast (i0 := 368) B hz hP hS (by decide) ((sel_tl (by decide)).trans sel_hd) rfl (by decide) (by decide) dX7_init_146 (fun H locs hz hP hS => ?_)
  rw [ct_up1 (by decide)] at hP
  have hz : H.size = E.2.1 + 1090 := hz
  have hP : va_P E.1 vwCl (wl E 1090 (ct E C 1076 [(1076, .inr (7, [.int 0, .int 0, .ref (E.2.1 + 1077), .ref (E.2.1 + 1078), .ref (E.2.1 + 1079), .ref (E.2.1 + 1080), .int 0, .ref (E.2.1 + 1081), .ref (E.2.1 + 1082), .ref (E.2.1 + 1083), .ref (E.2.1 + 1084), .ref (E.2.1 + 1085), .ref (E.2.1 + 1086), .ref (E.2.1 + 1087), .ref (E.2.1 + 1088), .ref (E.2.1 + 1089), .int 0, .int 0])), (1078, .inl (E.2.2.1 0, 695, .inl (upd (upd (upd (upd (upd (fun _ => 0) 8 1) 9 16) 10 2) 42 (-1)) 368 (-1))))])) H := hP
  have hP : va_P E.1 vwCl (wl E (1076 + 14) (fun j => if j < 1076 then C j else hcc E j (r0 j))) H := by
    refine ct_end hP (List.forall_mem_cons.mpr ⟨(show 1076 ≤ 1076 from (by decide)), List.forall_mem_cons.mpr ⟨(show 1076 ≤ 1078 from (by decide)), fun _ h => absurd h List.not_mem_nil⟩⟩) (List.forall_mem_cons.mpr ⟨fun h0 => ?_, List.forall_mem_cons.mpr ⟨fun h0 => ?_, fun _ h => absurd h List.not_mem_nil⟩⟩)
    · show va_at E.1 vwCl (E.2.1 + 1076, hcc E 1076 (r0 1076)) H
      rw [hcc7 _ _ (show hk 1076 = 7 by decide +kernel)]
      have e : fl7 E 1076 (r0 1076) = [.int 0, .int 0, .ref (E.2.1 + 1077), .ref (E.2.1 + 1078), .ref (E.2.1 + 1079), .ref (E.2.1 + 1080), .int 0, .ref (E.2.1 + 1081), .ref (E.2.1 + 1082), .ref (E.2.1 + 1083), .ref (E.2.1 + 1084), .ref (E.2.1 + 1085), .ref (E.2.1 + 1086), .ref (E.2.1 + 1087), .ref (E.2.1 + 1088), .ref (E.2.1 + 1089), .int 0, .int 0] := by simp [fl7, r0, (show hk 1076 = 7 by decide +kernel)]
      rw [e]
      exact h0
    · show va_at E.1 vwCl (E.2.1 + 1078, hcc E 1078 (r0 1078)) H
      rw [hcc8 _ _ (by decide +kernel), show hlen 1078 = 695 by decide +kernel, row_fin]
      exact h0
  exact ret_c B hr hlk hz hP hS dX7_init_147
