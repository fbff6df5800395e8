theorem dX7_radio_0 : decode cX7_radio 0 = .ok (.aload_n 0, 1) := by decide +kernel
theorem dX7_radio_1 : decode cX7_radio 1 = .ok (.iconst 0, 1) := by decide +kernel
theorem dX7_radio_2 : decode cX7_radio 2 = .ok (.putfield 50, 3) := by decide +kernel
theorem dX7_radio_5 : decode cX7_radio 5 = .ok (.iload_n 1, 1) := by decide +kernel
theorem dX7_radio_6 : decode cX7_radio 6 = .ok (.i2l, 1) := by decide +kernel
theorem dX7_radio_7 : decode cX7_radio 7 = .ok (.lconst 0, 1) := by decide +kernel
theorem dX7_radio_8 : decode cX7_radio 8 = .ok (.ldc2_w 102, 3) := by decide +kernel
theorem dX7_radio_11 : decode cX7_radio 11 = .ok (.invokestatic 71, 3) := by decide +kernel
theorem dX7_radio_14 : decode cX7_radio 14 = .ok (.ifCond .ne 9, 3) := by decide +kernel
theorem dX7_radio_17 : decode cX7_radio 17 = .ok (.aload_n 0, 1) := by decide +kernel
theorem dX7_radio_18 : decode cX7_radio 18 = .ok (.iconst (-1), 1) := by decide +kernel
theorem dX7_radio_19 : decode cX7_radio 19 = .ok (.invokevirtual 64, 3) := by decide +kernel
theorem dX7_radio_22 : decode cX7_radio 22 = .ok (.ireturn, 1) := by decide +kernel
theorem dX7_radio_23 : decode cX7_radio 23 = .ok (.aload_n 0, 1) := by decide +kernel
theorem dX7_radio_24 : decode cX7_radio 24 = .ok (.getfield 13, 3) := by decide +kernel
theorem dX7_radio_27 : decode cX7_radio 27 = .ok (.iconst 0, 1) := by decide +kernel
theorem dX7_radio_28 : decode cX7_radio 28 = .ok (.iaload, 1) := by decide +kernel
theorem dX7_radio_29 : decode cX7_radio 29 = .ok (.istore_n 2, 1) := by decide +kernel
theorem dX7_radio_30 : decode cX7_radio 30 = .ok (.iload_n 2, 1) := by decide +kernel
theorem dX7_radio_31 : decode cX7_radio 31 = .ok (.bipush 6, 2) := by decide +kernel
theorem dX7_radio_33 : decode cX7_radio 33 = .ok (.if_icmp .ne 10, 3) := by decide +kernel
theorem dX7_radio_36 : decode cX7_radio 36 = .ok (.aload_n 0, 1) := by decide +kernel
theorem dX7_radio_37 : decode cX7_radio 37 = .ok (.bipush (-5), 2) := by decide +kernel
theorem dX7_radio_39 : decode cX7_radio 39 = .ok (.invokevirtual 64, 3) := by decide +kernel
theorem dX7_radio_42 : decode cX7_radio 42 = .ok (.ireturn, 1) := by decide +kernel
theorem dX7_radio_43 : decode cX7_radio 43 = .ok (.aload_n 0, 1) := by decide +kernel
theorem dX7_radio_44 : decode cX7_radio 44 = .ok (.iconst 0, 1) := by decide +kernel
theorem dX7_radio_45 : decode cX7_radio 45 = .ok (.invokevirtual 118, 3) := by decide +kernel
theorem dX7_radio_48 : decode cX7_radio 48 = .ok (.aload_n 0, 1) := by decide +kernel
theorem dX7_radio_49 : decode cX7_radio 49 = .ok (.getfield 13, 3) := by decide +kernel
theorem dX7_radio_52 : decode cX7_radio 52 = .ok (.iconst 1, 1) := by decide +kernel
theorem dX7_radio_53 : decode cX7_radio 53 = .ok (.iload_n 2, 1) := by decide +kernel
theorem dX7_radio_54 : decode cX7_radio 54 = .ok (.iadd, 1) := by decide +kernel
theorem dX7_radio_55 : decode cX7_radio 55 = .ok (.iload_n 1, 1) := by decide +kernel
theorem dX7_radio_56 : decode cX7_radio 56 = .ok (.iastore, 1) := by decide +kernel
theorem dX7_radio_57 : decode cX7_radio 57 = .ok (.aload_n 0, 1) := by decide +kernel
theorem dX7_radio_58 : decode cX7_radio 58 = .ok (.getfield 13, 3) := by decide +kernel
theorem dX7_radio_61 : decode cX7_radio 61 = .ok (.iconst 0, 1) := by decide +kernel
theorem dX7_radio_62 : decode cX7_radio 62 = .ok (.dup2, 1) := by decide +kernel
theorem dX7_radio_63 : decode cX7_radio 63 = .ok (.iaload, 1) := by decide +kernel
theorem dX7_radio_64 : decode cX7_radio 64 = .ok (.iconst 1, 1) := by decide +kernel
theorem dX7_radio_65 : decode cX7_radio 65 = .ok (.iadd, 1) := by decide +kernel
theorem dX7_radio_66 : decode cX7_radio 66 = .ok (.iastore, 1) := by decide +kernel
theorem dX7_radio_67 : decode cX7_radio 67 = .ok (.aload_n 0, 1) := by decide +kernel
theorem dX7_radio_68 : decode cX7_radio 68 = .ok (.iload_n 2, 1) := by decide +kernel
theorem dX7_radio_69 : decode cX7_radio 69 = .ok (.invokevirtual 68, 3) := by decide +kernel
theorem dX7_radio_72 : decode cX7_radio 72 = .ok (.ireturn, 1) := by decide +kernel
theorem dX7_noise_0 : decode cX7_noise 0 = .ok (.aload_n 0, 1) := by decide +kernel
theorem dX7_noise_1 : decode cX7_noise 1 = .ok (.iconst 0, 1) := by decide +kernel
theorem dX7_noise_2 : decode cX7_noise 2 = .ok (.putfield 50, 3) := by decide +kernel
theorem dX7_noise_5 : decode cX7_noise 5 = .ok (.iload_n 1, 1) := by decide +kernel
theorem dX7_noise_6 : decode cX7_noise 6 = .ok (.i2l, 1) := by decide +kernel
theorem dX7_noise_7 : decode cX7_noise 7 = .ok (.lconst 0, 1) := by decide +kernel
theorem dX7_noise_8 : decode cX7_noise 8 = .ok (.ldc2_w 128, 3) := by decide +kernel
theorem dX7_noise_11 : decode cX7_noise 11 = .ok (.invokestatic 71, 3) := by decide +kernel
theorem dX7_noise_14 : decode cX7_noise 14 = .ok (.ifCond .eq 15, 3) := by decide +kernel
theorem dX7_noise_17 : decode cX7_noise 17 = .ok (.iload_n 2, 1) := by decide +kernel
theorem dX7_noise_18 : decode cX7_noise 18 = .ok (.i2l, 1) := by decide +kernel
theorem dX7_noise_19 : decode cX7_noise 19 = .ok (.lconst 0, 1) := by decide +kernel
theorem dX7_noise_20 : decode cX7_noise 20 = .ok (.ldc2_w 130, 3) := by decide +kernel
theorem dX7_noise_23 : decode cX7_noise 23 = .ok (.invokestatic 71, 3) := by decide +kernel
theorem dX7_noise_26 : decode cX7_noise 26 = .ok (.ifCond .ne 9, 3) := by decide +kernel
theorem dX7_noise_29 : decode cX7_noise 29 = .ok (.aload_n 0, 1) := by decide +kernel
theorem dX7_noise_30 : decode cX7_noise 30 = .ok (.iconst (-1), 1) := by decide +kernel
theorem dX7_noise_31 : decode cX7_noise 31 = .ok (.invokevirtual 64, 3) := by decide +kernel
theorem dX7_noise_34 : decode cX7_noise 34 = .ok (.ireturn, 1) := by decide +kernel
theorem dX7_noise_35 : decode cX7_noise 35 = .ok (.aload_n 0, 1) := by decide +kernel
theorem dX7_noise_36 : decode cX7_noise 36 = .ok (.iconst 4, 1) := by decide +kernel
theorem dX7_noise_37 : decode cX7_noise 37 = .ok (.invokevirtual 118, 3) := by decide +kernel
theorem dX7_noise_40 : decode cX7_noise 40 = .ok (.aload_n 0, 1) := by decide +kernel
theorem dX7_noise_41 : decode cX7_noise 41 = .ok (.getfield 13, 3) := by decide +kernel
theorem dX7_noise_44 : decode cX7_noise 44 = .ok (.bipush 19, 2) := by decide +kernel
theorem dX7_noise_46 : decode cX7_noise 46 = .ok (.iload_n 1, 1) := by decide +kernel
theorem dX7_noise_47 : decode cX7_noise 47 = .ok (.iadd, 1) := by decide +kernel
theorem dX7_noise_48 : decode cX7_noise 48 = .ok (.iaload, 1) := by decide +kernel
theorem dX7_noise_49 : decode cX7_noise 49 = .ok (.istore_n 3, 1) := by decide +kernel
theorem dX7_noise_50 : decode cX7_noise 50 = .ok (.aload_n 0, 1) := by decide +kernel
theorem dX7_noise_51 : decode cX7_noise 51 = .ok (.getfield 13, 3) := by decide +kernel
theorem dX7_noise_54 : decode cX7_noise 54 = .ok (.bipush 19, 2) := by decide +kernel
theorem dX7_noise_56 : decode cX7_noise 56 = .ok (.iload_n 1, 1) := by decide +kernel
theorem dX7_noise_57 : decode cX7_noise 57 = .ok (.iadd, 1) := by decide +kernel
theorem dX7_noise_58 : decode cX7_noise 58 = .ok (.iload_n 2, 1) := by decide +kernel
theorem dX7_noise_59 : decode cX7_noise 59 = .ok (.iastore, 1) := by decide +kernel
theorem dX7_noise_60 : decode cX7_noise 60 = .ok (.aload_n 0, 1) := by decide +kernel
theorem dX7_noise_61 : decode cX7_noise 61 = .ok (.iload_n 3, 1) := by decide +kernel
theorem dX7_noise_62 : decode cX7_noise 62 = .ok (.invokevirtual 68, 3) := by decide +kernel
theorem dX7_noise_65 : decode cX7_noise 65 = .ok (.ireturn, 1) := by decide +kernel
theorem dX7_terms_0 : decode cX7_terms 0 = .ok (.aload_n 0, 1) := by decide +kernel
theorem dX7_terms_1 : decode cX7_terms 1 = .ok (.iconst 0, 1) := by decide +kernel
theorem dX7_terms_2 : decode cX7_terms 2 = .ok (.putfield 50, 3) := by decide +kernel
theorem dX7_terms_5 : decode cX7_terms 5 = .ok (.iload_n 1, 1) := by decide +kernel
theorem dX7_terms_6 : decode cX7_terms 6 = .ok (.i2l, 1) := by decide +kernel
theorem dX7_terms_7 : decode cX7_terms 7 = .ok (.lconst 0, 1) := by decide +kernel
theorem dX7_terms_8 : decode cX7_terms 8 = .ok (.ldc2_w 134, 3) := by decide +kernel
theorem dX7_terms_11 : decode cX7_terms 11 = .ok (.invokestatic 71, 3) := by decide +kernel
theorem dX7_terms_14 : decode cX7_terms 14 = .ok (.ifCond .eq 49, 3) := by decide +kernel
theorem dX7_terms_17 : decode cX7_terms 17 = .ok (.iload_n 1, 1) := by decide +kernel
theorem dX7_terms_18 : decode cX7_terms 18 = .ok (.ifCond .ne 18, 3) := by decide +kernel
theorem dX7_terms_21 : decode cX7_terms 21 = .ok (.iload_n 2, 1) := by decide +kernel
theorem dX7_terms_22 : decode cX7_terms 22 = .ok (.i2l, 1) := by decide +kernel
theorem dX7_terms_23 : decode cX7_terms 23 = .ok (.lconst 0, 1) := by decide +kernel
theorem dX7_terms_24 : decode cX7_terms 24 = .ok (.ldc2_w 136, 3) := by decide +kernel
theorem dX7_terms_27 : decode cX7_terms 27 = .ok (.invokestatic 71, 3) := by decide +kernel
theorem dX7_terms_30 : decode cX7_terms 30 = .ok (.ifCond .ne 39, 3) := by decide +kernel
theorem dX7_terms_33 : decode cX7_terms 33 = .ok (.goto 30, 3) := by decide +kernel
theorem dX7_terms_36 : decode cX7_terms 36 = .ok (.iload_n 1, 1) := by decide +kernel
theorem dX7_terms_37 : decode cX7_terms 37 = .ok (.iconst 1, 1) := by decide +kernel
theorem dX7_terms_38 : decode cX7_terms 38 = .ok (.if_icmp .ne 13, 3) := by decide +kernel
theorem dX7_terms_41 : decode cX7_terms 41 = .ok (.iload_n 2, 1) := by decide +kernel
theorem dX7_terms_42 : decode cX7_terms 42 = .ok (.invokestatic 138, 3) := by decide +kernel
theorem dX7_terms_45 : decode cX7_terms 45 = .ok (.ifCond .ne 24, 3) := by decide +kernel
theorem dX7_terms_48 : decode cX7_terms 48 = .ok (.goto 15, 3) := by decide +kernel
theorem dX7_terms_51 : decode cX7_terms 51 = .ok (.iload_n 2, 1) := by decide +kernel
theorem dX7_terms_52 : decode cX7_terms 52 = .ok (.i2l, 1) := by decide +kernel
theorem dX7_terms_53 : decode cX7_terms 53 = .ok (.lconst 1, 1) := by decide +kernel
theorem dX7_terms_54 : decode cX7_terms 54 = .ok (.ldc2_w 141, 3) := by decide +kernel
theorem dX7_terms_57 : decode cX7_terms 57 = .ok (.invokestatic 71, 3) := by decide +kernel
theorem dX7_terms_60 : decode cX7_terms 60 = .ok (.ifCond .ne 9, 3) := by decide +kernel
theorem dX7_terms_63 : decode cX7_terms 63 = .ok (.aload_n 0, 1) := by decide +kernel
theorem dX7_terms_64 : decode cX7_terms 64 = .ok (.iconst (-1), 1) := by decide +kernel
theorem dX7_terms_65 : decode cX7_terms 65 = .ok (.invokevirtual 64, 3) := by decide +kernel
theorem dX7_terms_68 : decode cX7_terms 68 = .ok (.ireturn, 1) := by decide +kernel
theorem dX7_terms_69 : decode cX7_terms 69 = .ok (.aload_n 0, 1) := by decide +kernel
theorem dX7_terms_70 : decode cX7_terms 70 = .ok (.iconst 5, 1) := by decide +kernel
theorem dX7_terms_71 : decode cX7_terms 71 = .ok (.invokevirtual 118, 3) := by decide +kernel
theorem dX7_terms_74 : decode cX7_terms 74 = .ok (.aload_n 0, 1) := by decide +kernel
theorem dX7_terms_75 : decode cX7_terms 75 = .ok (.getfield 13, 3) := by decide +kernel
theorem dX7_terms_78 : decode cX7_terms 78 = .ok (.bipush 8, 2) := by decide +kernel
theorem dX7_terms_80 : decode cX7_terms 80 = .ok (.iload_n 1, 1) := by decide +kernel
theorem dX7_terms_81 : decode cX7_terms 81 = .ok (.iadd, 1) := by decide +kernel
theorem dX7_terms_82 : decode cX7_terms 82 = .ok (.iaload, 1) := by decide +kernel
theorem dX7_terms_83 : decode cX7_terms 83 = .ok (.istore_n 3, 1) := by decide +kernel
theorem dX7_terms_84 : decode cX7_terms 84 = .ok (.aload_n 0, 1) := by decide +kernel
theorem dX7_terms_85 : decode cX7_terms 85 = .ok (.getfield 13, 3) := by decide +kernel
theorem dX7_terms_88 : decode cX7_terms 88 = .ok (.bipush 8, 2) := by decide +kernel
theorem dX7_terms_90 : decode cX7_terms 90 = .ok (.iload_n 1, 1) := by decide +kernel
theorem dX7_terms_91 : decode cX7_terms 91 = .ok (.iadd, 1) := by decide +kernel
theorem dX7_terms_92 : decode cX7_terms 92 = .ok (.iload_n 2, 1) := by decide +kernel
theorem dX7_terms_93 : decode cX7_terms 93 = .ok (.iastore, 1) := by decide +kernel
theorem dX7_terms_94 : decode cX7_terms 94 = .ok (.aload_n 0, 1) := by decide +kernel
theorem dX7_terms_95 : decode cX7_terms 95 = .ok (.iload_n 3, 1) := by decide +kernel
theorem dX7_terms_96 : decode cX7_terms 96 = .ok (.invokevirtual 68, 3) := by decide +kernel
theorem dX7_terms_99 : decode cX7_terms 99 = .ok (.ireturn, 1) := by decide +kernel
theorem dX7_put_0 : decode cX7_put 0 = .ok (.aload_n 0, 1) := by decide +kernel
theorem dX7_put_1 : decode cX7_put 1 = .ok (.iconst 0, 1) := by decide +kernel
theorem dX7_put_2 : decode cX7_put 2 = .ok (.putfield 50, 3) := by decide +kernel
theorem dX7_put_5 : decode cX7_put 5 = .ok (.iload_n 3, 1) := by decide +kernel
theorem dX7_put_6 : decode cX7_put 6 = .ok (.i2l, 1) := by decide +kernel
theorem dX7_put_7 : decode cX7_put 7 = .ok (.lconst 0, 1) := by decide +kernel
theorem dX7_put_8 : decode cX7_put 8 = .ok (.lconst 1, 1) := by decide +kernel
theorem dX7_put_9 : decode cX7_put 9 = .ok (.invokestatic 71, 3) := by decide +kernel
theorem dX7_put_12 : decode cX7_put 12 = .ok (.ifCond .eq 16, 3) := by decide +kernel
theorem dX7_put_15 : decode cX7_put 15 = .ok (.iload 4, 2) := by decide +kernel
theorem dX7_put_17 : decode cX7_put 17 = .ok (.i2l, 1) := by decide +kernel
theorem dX7_put_18 : decode cX7_put 18 = .ok (.lconst 0, 1) := by decide +kernel
theorem dX7_put_19 : decode cX7_put 19 = .ok (.ldc2_w 143, 3) := by decide +kernel
theorem dX7_put_22 : decode cX7_put 22 = .ok (.invokestatic 71, 3) := by decide +kernel
theorem dX7_put_25 : decode cX7_put 25 = .ok (.ifCond .ne 9, 3) := by decide +kernel
theorem dX7_put_28 : decode cX7_put 28 = .ok (.aload_n 0, 1) := by decide +kernel
theorem dX7_put_29 : decode cX7_put 29 = .ok (.iconst (-1), 1) := by decide +kernel
theorem dX7_put_30 : decode cX7_put 30 = .ok (.invokevirtual 64, 3) := by decide +kernel
theorem dX7_put_33 : decode cX7_put 33 = .ok (.ireturn, 1) := by decide +kernel
theorem dX7_put_34 : decode cX7_put 34 = .ok (.aload_n 0, 1) := by decide +kernel
theorem dX7_put_35 : decode cX7_put 35 = .ok (.iload_n 1, 1) := by decide +kernel
theorem dX7_put_36 : decode cX7_put 36 = .ok (.iload_n 2, 1) := by decide +kernel
theorem dX7_put_37 : decode cX7_put 37 = .ok (.invokevirtual 106, 3) := by decide +kernel
theorem dX7_put_40 : decode cX7_put 40 = .ok (.ifCond .ne 10, 3) := by decide +kernel
theorem dX7_put_43 : decode cX7_put 43 = .ok (.aload_n 0, 1) := by decide +kernel
theorem dX7_put_44 : decode cX7_put 44 = .ok (.bipush (-2), 2) := by decide +kernel
theorem dX7_put_46 : decode cX7_put 46 = .ok (.invokevirtual 64, 3) := by decide +kernel
theorem dX7_put_49 : decode cX7_put 49 = .ok (.ireturn, 1) := by decide +kernel
theorem dX7_put_50 : decode cX7_put 50 = .ok (.iload_n 1, 1) := by decide +kernel
theorem dX7_put_51 : decode cX7_put 51 = .ok (.iload_n 2, 1) := by decide +kernel
theorem dX7_put_52 : decode cX7_put 52 = .ok (.invokestatic 82, 3) := by decide +kernel
theorem dX7_put_55 : decode cX7_put 55 = .ok (.iload_n 3, 1) := by decide +kernel
theorem dX7_put_56 : decode cX7_put 56 = .ok (.ifCond .ne 7, 3) := by decide +kernel
theorem dX7_put_59 : decode cX7_put 59 = .ok (.iconst 5, 1) := by decide +kernel
theorem dX7_put_60 : decode cX7_put 60 = .ok (.goto 5, 3) := by decide +kernel
theorem dX7_put_63 : decode cX7_put 63 = .ok (.bipush 14, 2) := by decide +kernel
theorem dX7_put_65 : decode cX7_put 65 = .ok (.iadd, 1) := by decide +kernel
theorem dX7_put_66 : decode cX7_put 66 = .ok (.istore 5, 2) := by decide +kernel
theorem dX7_put_68 : decode cX7_put 68 = .ok (.aload_n 0, 1) := by decide +kernel
theorem dX7_put_69 : decode cX7_put 69 = .ok (.getfield 13, 3) := by decide +kernel
theorem dX7_put_72 : decode cX7_put 72 = .ok (.iload 5, 2) := by decide +kernel
theorem dX7_put_74 : decode cX7_put 74 = .ok (.iaload, 1) := by decide +kernel
theorem dX7_put_75 : decode cX7_put 75 = .ok (.istore 6, 2) := by decide +kernel
theorem dX7_put_77 : decode cX7_put 77 = .ok (.iload 6, 2) := by decide +kernel
theorem dX7_put_79 : decode cX7_put 79 = .ok (.bipush 8, 2) := by decide +kernel
theorem dX7_put_81 : decode cX7_put 81 = .ok (.if_icmp .ne 10, 3) := by decide +kernel
theorem dX7_put_84 : decode cX7_put 84 = .ok (.aload_n 0, 1) := by decide +kernel
theorem dX7_put_85 : decode cX7_put 85 = .ok (.bipush (-5), 2) := by decide +kernel
theorem dX7_put_87 : decode cX7_put 87 = .ok (.invokevirtual 64, 3) := by decide +kernel
theorem dX7_put_90 : decode cX7_put 90 = .ok (.ireturn, 1) := by decide +kernel
theorem dX7_put_91 : decode cX7_put 91 = .ok (.aload_n 0, 1) := by decide +kernel
theorem dX7_put_92 : decode cX7_put 92 = .ok (.bipush 6, 2) := by decide +kernel
theorem dX7_put_94 : decode cX7_put 94 = .ok (.invokevirtual 118, 3) := by decide +kernel
theorem dX7_put_97 : decode cX7_put 97 = .ok (.aload_n 0, 1) := by decide +kernel
theorem dX7_put_98 : decode cX7_put 98 = .ok (.iload 5, 2) := by decide +kernel
theorem dX7_put_100 : decode cX7_put 100 = .ok (.iload_n 1, 1) := by decide +kernel
theorem dX7_put_101 : decode cX7_put 101 = .ok (.iload_n 2, 1) := by decide +kernel
theorem dX7_put_102 : decode cX7_put 102 = .ok (.invokestatic 82, 3) := by decide +kernel
theorem dX7_put_105 : decode cX7_put 105 = .ok (.iload_n 3, 1) := by decide +kernel
theorem dX7_put_106 : decode cX7_put 106 = .ok (.ifCond .ne 8, 3) := by decide +kernel
theorem dX7_put_109 : decode cX7_put 109 = .ok (.bipush 50, 2) := by decide +kernel
theorem dX7_put_111 : decode cX7_put 111 = .ok (.goto 5, 3) := by decide +kernel
theorem dX7_put_114 : decode cX7_put 114 = .ok (.bipush 58, 2) := by decide +kernel
theorem dX7_put_116 : decode cX7_put 116 = .ok (.iadd, 1) := by decide +kernel
theorem dX7_put_117 : decode cX7_put 117 = .ok (.iload 4, 2) := by decide +kernel
theorem dX7_put_119 : decode cX7_put 119 = .ok (.aload_n 0, 1) := by decide +kernel
theorem dX7_put_120 : decode cX7_put 120 = .ok (.getfield 13, 3) := by decide +kernel
theorem dX7_put_123 : decode cX7_put 123 = .ok (.bipush 7, 2) := by decide +kernel
theorem dX7_put_125 : decode cX7_put 125 = .ok (.iaload, 1) := by decide +kernel
theorem dX7_put_126 : decode cX7_put 126 = .ok (.invokevirtual 145, 3) := by decide +kernel
theorem dX7_put_129 : decode cX7_put 129 = .ok (.aload_n 0, 1) := by decide +kernel
theorem dX7_put_130 : decode cX7_put 130 = .ok (.iload 6, 2) := by decide +kernel
theorem dX7_put_132 : decode cX7_put 132 = .ok (.iconst 1, 1) := by decide +kernel
theorem dX7_put_133 : decode cX7_put 133 = .ok (.iadd, 1) := by decide +kernel
theorem dX7_put_134 : decode cX7_put 134 = .ok (.invokevirtual 68, 3) := by decide +kernel
theorem dX7_put_137 : decode cX7_put 137 = .ok (.ireturn, 1) := by decide +kernel
theorem dX7_sniff_0 : decode cX7_sniff 0 = .ok (.aload_n 0, 1) := by decide +kernel
theorem dX7_sniff_1 : decode cX7_sniff 1 = .ok (.iconst 0, 1) := by decide +kernel
theorem dX7_sniff_2 : decode cX7_sniff 2 = .ok (.putfield 50, 3) := by decide +kernel
theorem dX7_sniff_5 : decode cX7_sniff 5 = .ok (.iload_n 3, 1) := by decide +kernel
theorem dX7_sniff_6 : decode cX7_sniff 6 = .ok (.ifCond .eq 33, 3) := by decide +kernel
theorem dX7_sniff_9 : decode cX7_sniff 9 = .ok (.iload_n 3, 1) := by decide +kernel
theorem dX7_sniff_10 : decode cX7_sniff 10 = .ok (.bipush 8, 2) := by decide +kernel
theorem dX7_sniff_12 : decode cX7_sniff 12 = .ok (.bipush 64, 2) := by decide +kernel
theorem dX7_sniff_14 : decode cX7_sniff 14 = .ok (.invokestatic 149, 3) := by decide +kernel
theorem dX7_sniff_17 : decode cX7_sniff 17 = .ok (.ifCond .eq 16, 3) := by decide +kernel
theorem dX7_sniff_20 : decode cX7_sniff 20 = .ok (.iload 4, 2) := by decide +kernel
theorem dX7_sniff_22 : decode cX7_sniff 22 = .ok (.i2l, 1) := by decide +kernel
theorem dX7_sniff_23 : decode cX7_sniff 23 = .ok (.lconst 1, 1) := by decide +kernel
theorem dX7_sniff_24 : decode cX7_sniff 24 = .ok (.ldc2_w 141, 3) := by decide +kernel
theorem dX7_sniff_27 : decode cX7_sniff 27 = .ok (.invokestatic 71, 3) := by decide +kernel
theorem dX7_sniff_30 : decode cX7_sniff 30 = .ok (.ifCond .ne 9, 3) := by decide +kernel
theorem dX7_sniff_33 : decode cX7_sniff 33 = .ok (.aload_n 0, 1) := by decide +kernel
theorem dX7_sniff_34 : decode cX7_sniff 34 = .ok (.iconst (-1), 1) := by decide +kernel
theorem dX7_sniff_35 : decode cX7_sniff 35 = .ok (.invokevirtual 64, 3) := by decide +kernel
theorem dX7_sniff_38 : decode cX7_sniff 38 = .ok (.ireturn, 1) := by decide +kernel
theorem dX7_sniff_39 : decode cX7_sniff 39 = .ok (.aload_n 0, 1) := by decide +kernel
theorem dX7_sniff_40 : decode cX7_sniff 40 = .ok (.iload_n 1, 1) := by decide +kernel
theorem dX7_sniff_41 : decode cX7_sniff 41 = .ok (.iload_n 2, 1) := by decide +kernel
theorem dX7_sniff_42 : decode cX7_sniff 42 = .ok (.invokevirtual 106, 3) := by decide +kernel
theorem dX7_sniff_45 : decode cX7_sniff 45 = .ok (.ifCond .ne 10, 3) := by decide +kernel
theorem dX7_sniff_48 : decode cX7_sniff 48 = .ok (.aload_n 0, 1) := by decide +kernel
theorem dX7_sniff_49 : decode cX7_sniff 49 = .ok (.bipush (-2), 2) := by decide +kernel
theorem dX7_sniff_51 : decode cX7_sniff 51 = .ok (.invokevirtual 64, 3) := by decide +kernel
theorem dX7_sniff_54 : decode cX7_sniff 54 = .ok (.ireturn, 1) := by decide +kernel
theorem dX7_sniff_55 : decode cX7_sniff 55 = .ok (.aload_n 0, 1) := by decide +kernel
theorem dX7_sniff_56 : decode cX7_sniff 56 = .ok (.bipush 10, 2) := by decide +kernel
theorem dX7_sniff_58 : decode cX7_sniff 58 = .ok (.invokevirtual 118, 3) := by decide +kernel
theorem dX7_sniff_61 : decode cX7_sniff 61 = .ok (.iload_n 1, 1) := by decide +kernel
theorem dX7_sniff_62 : decode cX7_sniff 62 = .ok (.iload_n 2, 1) := by decide +kernel
theorem dX7_sniff_63 : decode cX7_sniff 63 = .ok (.invokestatic 82, 3) := by decide +kernel
theorem dX7_sniff_66 : decode cX7_sniff 66 = .ok (.istore 5, 2) := by decide +kernel
theorem dX7_sniff_68 : decode cX7_sniff 68 = .ok (.aload_n 0, 1) := by decide +kernel
theorem dX7_sniff_69 : decode cX7_sniff 69 = .ok (.getfield 13, 3) := by decide +kernel
theorem dX7_sniff_72 : decode cX7_sniff 72 = .ok (.iload 5, 2) := by decide +kernel
theorem dX7_sniff_74 : decode cX7_sniff 74 = .ok (.bipush 40, 2) := by decide +kernel
theorem dX7_sniff_76 : decode cX7_sniff 76 = .ok (.iadd, 1) := by decide +kernel
theorem dX7_sniff_77 : decode cX7_sniff 77 = .ok (.iaload, 1) := by decide +kernel
theorem dX7_sniff_78 : decode cX7_sniff 78 = .ok (.istore 6, 2) := by decide +kernel
theorem dX7_sniff_80 : decode cX7_sniff 80 = .ok (.aload_n 0, 1) := by decide +kernel
theorem dX7_sniff_81 : decode cX7_sniff 81 = .ok (.getfield 13, 3) := by decide +kernel
theorem dX7_sniff_84 : decode cX7_sniff 84 = .ok (.iload 5, 2) := by decide +kernel
theorem dX7_sniff_86 : decode cX7_sniff 86 = .ok (.bipush 40, 2) := by decide +kernel
theorem dX7_sniff_88 : decode cX7_sniff 88 = .ok (.iadd, 1) := by decide +kernel
theorem dX7_sniff_89 : decode cX7_sniff 89 = .ok (.iload_n 3, 1) := by decide +kernel
theorem dX7_sniff_90 : decode cX7_sniff 90 = .ok (.iastore, 1) := by decide +kernel
theorem dX7_sniff_91 : decode cX7_sniff 91 = .ok (.aload_n 0, 1) := by decide +kernel
theorem dX7_sniff_92 : decode cX7_sniff 92 = .ok (.getfield 13, 3) := by decide +kernel
theorem dX7_sniff_95 : decode cX7_sniff 95 = .ok (.iload 5, 2) := by decide +kernel
theorem dX7_sniff_97 : decode cX7_sniff 97 = .ok (.bipush 41, 2) := by decide +kernel
theorem dX7_sniff_99 : decode cX7_sniff 99 = .ok (.iadd, 1) := by decide +kernel
theorem dX7_sniff_100 : decode cX7_sniff 100 = .ok (.iload_n 3, 1) := by decide +kernel
theorem dX7_sniff_101 : decode cX7_sniff 101 = .ok (.ifCond .le 8, 3) := by decide +kernel
theorem dX7_sniff_104 : decode cX7_sniff 104 = .ok (.iload 4, 2) := by decide +kernel
theorem dX7_sniff_106 : decode cX7_sniff 106 = .ok (.goto 4, 3) := by decide +kernel
theorem dX7_sniff_109 : decode cX7_sniff 109 = .ok (.iconst 0, 1) := by decide +kernel
theorem dX7_sniff_110 : decode cX7_sniff 110 = .ok (.iastore, 1) := by decide +kernel
theorem dX7_sniff_111 : decode cX7_sniff 111 = .ok (.aload_n 0, 1) := by decide +kernel
theorem dX7_sniff_112 : decode cX7_sniff 112 = .ok (.iload 6, 2) := by decide +kernel
theorem dX7_sniff_114 : decode cX7_sniff 114 = .ok (.invokevirtual 68, 3) := by decide +kernel
theorem dX7_sniff_117 : decode cX7_sniff 117 = .ok (.ireturn, 1) := by decide +kernel
theorem dX7_weigh_0 : decode cX7_weigh 0 = .ok (.aload_n 0, 1) := by decide +kernel
theorem dX7_weigh_1 : decode cX7_weigh 1 = .ok (.iconst 0, 1) := by decide +kernel
theorem dX7_weigh_2 : decode cX7_weigh 2 = .ok (.putfield 50, 3) := by decide +kernel
theorem dX7_weigh_5 : decode cX7_weigh 5 = .ok (.iload_n 3, 1) := by decide +kernel
theorem dX7_weigh_6 : decode cX7_weigh 6 = .ok (.i2l, 1) := by decide +kernel
theorem dX7_weigh_7 : decode cX7_weigh 7 = .ok (.lconst 1, 1) := by decide +kernel
theorem dX7_weigh_8 : decode cX7_weigh 8 = .ok (.ldc2_w 141, 3) := by decide +kernel
theorem dX7_weigh_11 : decode cX7_weigh 11 = .ok (.invokestatic 71, 3) := by decide +kernel
theorem dX7_weigh_14 : decode cX7_weigh 14 = .ok (.ifCond .ne 9, 3) := by decide +kernel
theorem dX7_weigh_17 : decode cX7_weigh 17 = .ok (.aload_n 0, 1) := by decide +kernel
theorem dX7_weigh_18 : decode cX7_weigh 18 = .ok (.iconst (-1), 1) := by decide +kernel
theorem dX7_weigh_19 : decode cX7_weigh 19 = .ok (.invokevirtual 64, 3) := by decide +kernel
theorem dX7_weigh_22 : decode cX7_weigh 22 = .ok (.ireturn, 1) := by decide +kernel
theorem dX7_weigh_23 : decode cX7_weigh 23 = .ok (.aload_n 0, 1) := by decide +kernel
theorem dX7_weigh_24 : decode cX7_weigh 24 = .ok (.iload_n 1, 1) := by decide +kernel
theorem dX7_weigh_25 : decode cX7_weigh 25 = .ok (.iload_n 2, 1) := by decide +kernel
theorem dX7_weigh_26 : decode cX7_weigh 26 = .ok (.invokevirtual 106, 3) := by decide +kernel
theorem dX7_weigh_29 : decode cX7_weigh 29 = .ok (.ifCond .ne 10, 3) := by decide +kernel
theorem dX7_weigh_32 : decode cX7_weigh 32 = .ok (.aload_n 0, 1) := by decide +kernel
theorem dX7_weigh_33 : decode cX7_weigh 33 = .ok (.bipush (-2), 2) := by decide +kernel
theorem dX7_weigh_35 : decode cX7_weigh 35 = .ok (.invokevirtual 64, 3) := by decide +kernel
theorem dX7_weigh_38 : decode cX7_weigh 38 = .ok (.ireturn, 1) := by decide +kernel
theorem dX7_weigh_39 : decode cX7_weigh 39 = .ok (.aload_n 0, 1) := by decide +kernel
theorem dX7_weigh_40 : decode cX7_weigh 40 = .ok (.bipush 12, 2) := by decide +kernel
theorem dX7_weigh_42 : decode cX7_weigh 42 = .ok (.invokevirtual 118, 3) := by decide +kernel
theorem dX7_weigh_45 : decode cX7_weigh 45 = .ok (.iload_n 1, 1) := by decide +kernel
theorem dX7_weigh_46 : decode cX7_weigh 46 = .ok (.iload_n 2, 1) := by decide +kernel
theorem dX7_weigh_47 : decode cX7_weigh 47 = .ok (.invokestatic 82, 3) := by decide +kernel
theorem dX7_weigh_50 : decode cX7_weigh 50 = .ok (.istore 4, 2) := by decide +kernel
theorem dX7_weigh_52 : decode cX7_weigh 52 = .ok (.aload_n 0, 1) := by decide +kernel
theorem dX7_weigh_53 : decode cX7_weigh 53 = .ok (.getfield 13, 3) := by decide +kernel
theorem dX7_weigh_56 : decode cX7_weigh 56 = .ok (.iload 4, 2) := by decide +kernel
theorem dX7_weigh_58 : decode cX7_weigh 58 = .ok (.bipush 48, 2) := by decide +kernel
theorem dX7_weigh_60 : decode cX7_weigh 60 = .ok (.iadd, 1) := by decide +kernel
theorem dX7_weigh_61 : decode cX7_weigh 61 = .ok (.iaload, 1) := by decide +kernel
theorem dX7_weigh_62 : decode cX7_weigh 62 = .ok (.istore 5, 2) := by decide +kernel
theorem dX7_weigh_64 : decode cX7_weigh 64 = .ok (.aload_n 0, 1) := by decide +kernel
theorem dX7_weigh_65 : decode cX7_weigh 65 = .ok (.getfield 13, 3) := by decide +kernel
theorem dX7_weigh_68 : decode cX7_weigh 68 = .ok (.iload 4, 2) := by decide +kernel
theorem dX7_weigh_70 : decode cX7_weigh 70 = .ok (.bipush 48, 2) := by decide +kernel
theorem dX7_weigh_72 : decode cX7_weigh 72 = .ok (.iadd, 1) := by decide +kernel
theorem dX7_weigh_73 : decode cX7_weigh 73 = .ok (.iload_n 3, 1) := by decide +kernel
theorem dX7_weigh_74 : decode cX7_weigh 74 = .ok (.iastore, 1) := by decide +kernel
theorem dX7_weigh_75 : decode cX7_weigh 75 = .ok (.aload_n 0, 1) := by decide +kernel
theorem dX7_weigh_76 : decode cX7_weigh 76 = .ok (.iload 5, 2) := by decide +kernel
theorem dX7_weigh_78 : decode cX7_weigh 78 = .ok (.invokevirtual 68, 3) := by decide +kernel
theorem dX7_weigh_81 : decode cX7_weigh 81 = .ok (.ireturn, 1) := by decide +kernel
theorem dX7_cast_0 : decode cX7_cast 0 = .ok (.aload_n 0, 1) := by decide +kernel
theorem dX7_cast_1 : decode cX7_cast 1 = .ok (.iconst 0, 1) := by decide +kernel
theorem dX7_cast_2 : decode cX7_cast 2 = .ok (.putfield 50, 3) := by decide +kernel
theorem dX7_cast_5 : decode cX7_cast 5 = .ok (.iload_n 2, 1) := by decide +kernel
theorem dX7_cast_6 : decode cX7_cast 6 = .ok (.i2l, 1) := by decide +kernel
theorem dX7_cast_7 : decode cX7_cast 7 = .ok (.lconst 0, 1) := by decide +kernel
theorem dX7_cast_8 : decode cX7_cast 8 = .ok (.ldc2_w 143, 3) := by decide +kernel
theorem dX7_cast_11 : decode cX7_cast 11 = .ok (.invokestatic 71, 3) := by decide +kernel
theorem dX7_cast_14 : decode cX7_cast 14 = .ok (.ifCond .ne 9, 3) := by decide +kernel
theorem dX7_cast_17 : decode cX7_cast 17 = .ok (.aload_n 0, 1) := by decide +kernel
theorem dX7_cast_18 : decode cX7_cast 18 = .ok (.iconst (-1), 1) := by decide +kernel
theorem dX7_cast_19 : decode cX7_cast 19 = .ok (.invokevirtual 64, 3) := by decide +kernel
theorem dX7_cast_22 : decode cX7_cast 22 = .ok (.ireturn, 1) := by decide +kernel
theorem dX7_cast_23 : decode cX7_cast 23 = .ok (.aload_n 0, 1) := by decide +kernel
theorem dX7_cast_24 : decode cX7_cast 24 = .ok (.iload_n 1, 1) := by decide +kernel
theorem dX7_cast_25 : decode cX7_cast 25 = .ok (.invokevirtual 78, 3) := by decide +kernel
theorem dX7_cast_28 : decode cX7_cast 28 = .ok (.ifCond .ne 10, 3) := by decide +kernel
theorem dX7_cast_31 : decode cX7_cast 31 = .ok (.aload_n 0, 1) := by decide +kernel
theorem dX7_cast_32 : decode cX7_cast 32 = .ok (.bipush (-2), 2) := by decide +kernel
theorem dX7_cast_34 : decode cX7_cast 34 = .ok (.invokevirtual 64, 3) := by decide +kernel
theorem dX7_cast_37 : decode cX7_cast 37 = .ok (.ireturn, 1) := by decide +kernel
theorem dX7_cast_38 : decode cX7_cast 38 = .ok (.iload_n 1, 1) := by decide +kernel
theorem dX7_cast_39 : decode cX7_cast 39 = .ok (.invokestatic 75, 3) := by decide +kernel
theorem dX7_cast_42 : decode cX7_cast 42 = .ok (.istore_n 3, 1) := by decide +kernel
theorem dX7_cast_43 : decode cX7_cast 43 = .ok (.aload_n 0, 1) := by decide +kernel
theorem dX7_cast_44 : decode cX7_cast 44 = .ok (.getfield 13, 3) := by decide +kernel
theorem dX7_cast_47 : decode cX7_cast 47 = .ok (.iload_n 3, 1) := by decide +kernel
theorem dX7_cast_48 : decode cX7_cast 48 = .ok (.bipush 9, 2) := by decide +kernel
theorem dX7_cast_50 : decode cX7_cast 50 = .ok (.iadd, 1) := by decide +kernel
theorem dX7_cast_51 : decode cX7_cast 51 = .ok (.iaload, 1) := by decide +kernel
theorem dX7_cast_52 : decode cX7_cast 52 = .ok (.iconst 4, 1) := by decide +kernel
theorem dX7_cast_53 : decode cX7_cast 53 = .ok (.if_icmp .ne 10, 3) := by decide +kernel
theorem dX7_cast_56 : decode cX7_cast 56 = .ok (.aload_n 0, 1) := by decide +kernel
theorem dX7_cast_57 : decode cX7_cast 57 = .ok (.bipush (-5), 2) := by decide +kernel
theorem dX7_cast_59 : decode cX7_cast 59 = .ok (.invokevirtual 64, 3) := by decide +kernel
theorem dX7_cast_62 : decode cX7_cast 62 = .ok (.ireturn, 1) := by decide +kernel
theorem dX7_cast_63 : decode cX7_cast 63 = .ok (.aload_n 0, 1) := by decide +kernel
theorem dX7_cast_64 : decode cX7_cast 64 = .ok (.bipush 11, 2) := by decide +kernel
theorem dX7_cast_66 : decode cX7_cast 66 = .ok (.invokevirtual 118, 3) := by decide +kernel
theorem dX7_cast_69 : decode cX7_cast 69 = .ok (.aload_n 0, 1) := by decide +kernel
theorem dX7_cast_70 : decode cX7_cast 70 = .ok (.getfield 13, 3) := by decide +kernel
theorem dX7_cast_73 : decode cX7_cast 73 = .ok (.iload_n 3, 1) := by decide +kernel
theorem dX7_cast_74 : decode cX7_cast 74 = .ok (.bipush 10, 2) := by decide +kernel
theorem dX7_cast_76 : decode cX7_cast 76 = .ok (.iadd, 1) := by decide +kernel
theorem dX7_cast_77 : decode cX7_cast 77 = .ok (.aload_n 0, 1) := by decide +kernel
theorem dX7_cast_78 : decode cX7_cast 78 = .ok (.getfield 13, 3) := by decide +kernel
theorem dX7_cast_81 : decode cX7_cast 81 = .ok (.iload_n 3, 1) := by decide +kernel
theorem dX7_cast_82 : decode cX7_cast 82 = .ok (.bipush 9, 2) := by decide +kernel
theorem dX7_cast_84 : decode cX7_cast 84 = .ok (.iadd, 1) := by decide +kernel
theorem dX7_cast_85 : decode cX7_cast 85 = .ok (.iaload, 1) := by decide +kernel
theorem dX7_cast_86 : decode cX7_cast 86 = .ok (.iadd, 1) := by decide +kernel
theorem dX7_cast_87 : decode cX7_cast 87 = .ok (.iload_n 2, 1) := by decide +kernel
theorem dX7_cast_88 : decode cX7_cast 88 = .ok (.iastore, 1) := by decide +kernel
theorem dX7_cast_89 : decode cX7_cast 89 = .ok (.aload_n 0, 1) := by decide +kernel
theorem dX7_cast_90 : decode cX7_cast 90 = .ok (.getfield 13, 3) := by decide +kernel
theorem dX7_cast_93 : decode cX7_cast 93 = .ok (.iload_n 3, 1) := by decide +kernel
theorem dX7_cast_94 : decode cX7_cast 94 = .ok (.bipush 9, 2) := by decide +kernel
theorem dX7_cast_96 : decode cX7_cast 96 = .ok (.iadd, 1) := by decide +kernel
theorem dX7_cast_97 : decode cX7_cast 97 = .ok (.dup2, 1) := by decide +kernel
theorem dX7_cast_98 : decode cX7_cast 98 = .ok (.iaload, 1) := by decide +kernel
theorem dX7_cast_99 : decode cX7_cast 99 = .ok (.iconst 1, 1) := by decide +kernel
theorem dX7_cast_100 : decode cX7_cast 100 = .ok (.iadd, 1) := by decide +kernel
theorem dX7_cast_101 : decode cX7_cast 101 = .ok (.iastore, 1) := by decide +kernel
theorem dX7_cast_102 : decode cX7_cast 102 = .ok (.aload_n 0, 1) := by decide +kernel
theorem dX7_cast_103 : decode cX7_cast 103 = .ok (.aload_n 0, 1) := by decide +kernel
theorem dX7_cast_104 : decode cX7_cast 104 = .ok (.getfield 13, 3) := by decide +kernel
theorem dX7_cast_107 : decode cX7_cast 107 = .ok (.iload_n 3, 1) := by decide +kernel
theorem dX7_cast_108 : decode cX7_cast 108 = .ok (.bipush 9, 2) := by decide +kernel
theorem dX7_cast_110 : decode cX7_cast 110 = .ok (.iadd, 1) := by decide +kernel
theorem dX7_cast_111 : decode cX7_cast 111 = .ok (.iaload, 1) := by decide +kernel
theorem dX7_cast_112 : decode cX7_cast 112 = .ok (.invokevirtual 68, 3) := by decide +kernel
theorem dX7_cast_115 : decode cX7_cast 115 = .ok (.ireturn, 1) := by decide +kernel
theorem dX7_reserve_0 : decode cX7_reserve 0 = .ok (.aload_n 0, 1) := by decide +kernel
theorem dX7_reserve_1 : decode cX7_reserve 1 = .ok (.iconst 0, 1) := by decide +kernel
theorem dX7_reserve_2 : decode cX7_reserve 2 = .ok (.putfield 50, 3) := by decide +kernel
theorem dX7_reserve_5 : decode cX7_reserve 5 = .ok (.iload_n 3, 1) := by decide +kernel
theorem dX7_reserve_6 : decode cX7_reserve 6 = .ok (.ifCond .eq 45, 3) := by decide +kernel
theorem dX7_reserve_9 : decode cX7_reserve 9 = .ok (.iload_n 3, 1) := by decide +kernel
theorem dX7_reserve_10 : decode cX7_reserve 10 = .ok (.bipush 6, 2) := by decide +kernel
theorem dX7_reserve_12 : decode cX7_reserve 12 = .ok (.bipush 40, 2) := by decide +kernel
theorem dX7_reserve_14 : decode cX7_reserve 14 = .ok (.invokestatic 149, 3) := by decide +kernel
theorem dX7_reserve_17 : decode cX7_reserve 17 = .ok (.ifCond .eq 28, 3) := by decide +kernel
theorem dX7_reserve_20 : decode cX7_reserve 20 = .ok (.iload 4, 2) := by decide +kernel
theorem dX7_reserve_22 : decode cX7_reserve 22 = .ok (.iconst 0, 1) := by decide +kernel
theorem dX7_reserve_23 : decode cX7_reserve 23 = .ok (.iload_n 3, 1) := by decide +kernel
theorem dX7_reserve_24 : decode cX7_reserve 24 = .ok (.iconst 1, 1) := by decide +kernel
theorem dX7_reserve_25 : decode cX7_reserve 25 = .ok (.isub, 1) := by decide +kernel
theorem dX7_reserve_26 : decode cX7_reserve 26 = .ok (.invokestatic 149, 3) := by decide +kernel
theorem dX7_reserve_29 : decode cX7_reserve 29 = .ok (.ifCond .eq 16, 3) := by decide +kernel
theorem dX7_reserve_32 : decode cX7_reserve 32 = .ok (.iload 5, 2) := by decide +kernel
theorem dX7_reserve_34 : decode cX7_reserve 34 = .ok (.i2l, 1) := by decide +kernel
theorem dX7_reserve_35 : decode cX7_reserve 35 = .ok (.lconst 1, 1) := by decide +kernel
theorem dX7_reserve_36 : decode cX7_reserve 36 = .ok (.ldc2_w 153, 3) := by decide +kernel
theorem dX7_reserve_39 : decode cX7_reserve 39 = .ok (.invokestatic 71, 3) := by decide +kernel
theorem dX7_reserve_42 : decode cX7_reserve 42 = .ok (.ifCond .ne 9, 3) := by decide +kernel
theorem dX7_reserve_45 : decode cX7_reserve 45 = .ok (.aload_n 0, 1) := by decide +kernel
theorem dX7_reserve_46 : decode cX7_reserve 46 = .ok (.iconst (-1), 1) := by decide +kernel
theorem dX7_reserve_47 : decode cX7_reserve 47 = .ok (.invokevirtual 64, 3) := by decide +kernel
theorem dX7_reserve_50 : decode cX7_reserve 50 = .ok (.ireturn, 1) := by decide +kernel
theorem dX7_reserve_51 : decode cX7_reserve 51 = .ok (.aload_n 0, 1) := by decide +kernel
theorem dX7_reserve_52 : decode cX7_reserve 52 = .ok (.iload_n 1, 1) := by decide +kernel
theorem dX7_reserve_53 : decode cX7_reserve 53 = .ok (.iload_n 2, 1) := by decide +kernel
theorem dX7_reserve_54 : decode cX7_reserve 54 = .ok (.invokevirtual 106, 3) := by decide +kernel
theorem dX7_reserve_57 : decode cX7_reserve 57 = .ok (.ifCond .ne 10, 3) := by decide +kernel
theorem dX7_reserve_60 : decode cX7_reserve 60 = .ok (.aload_n 0, 1) := by decide +kernel
theorem dX7_reserve_61 : decode cX7_reserve 61 = .ok (.bipush (-2), 2) := by decide +kernel
theorem dX7_reserve_63 : decode cX7_reserve 63 = .ok (.invokevirtual 64, 3) := by decide +kernel
theorem dX7_reserve_66 : decode cX7_reserve 66 = .ok (.ireturn, 1) := by decide +kernel
theorem dX7_reserve_67 : decode cX7_reserve 67 = .ok (.aload_n 0, 1) := by decide +kernel
theorem dX7_reserve_68 : decode cX7_reserve 68 = .ok (.bipush 7, 2) := by decide +kernel
theorem dX7_reserve_70 : decode cX7_reserve 70 = .ok (.invokevirtual 118, 3) := by decide +kernel
theorem dX7_reserve_73 : decode cX7_reserve 73 = .ok (.iload_n 1, 1) := by decide +kernel
theorem dX7_reserve_74 : decode cX7_reserve 74 = .ok (.iload_n 2, 1) := by decide +kernel
theorem dX7_reserve_75 : decode cX7_reserve 75 = .ok (.invokestatic 82, 3) := by decide +kernel
theorem dX7_reserve_78 : decode cX7_reserve 78 = .ok (.istore 6, 2) := by decide +kernel
theorem dX7_reserve_80 : decode cX7_reserve 80 = .ok (.aload_n 0, 1) := by decide +kernel
theorem dX7_reserve_81 : decode cX7_reserve 81 = .ok (.getfield 13, 3) := by decide +kernel
theorem dX7_reserve_84 : decode cX7_reserve 84 = .ok (.iload 6, 2) := by decide +kernel
theorem dX7_reserve_86 : decode cX7_reserve 86 = .ok (.bipush 31, 2) := by decide +kernel
theorem dX7_reserve_88 : decode cX7_reserve 88 = .ok (.iadd, 1) := by decide +kernel
theorem dX7_reserve_89 : decode cX7_reserve 89 = .ok (.iaload, 1) := by decide +kernel
theorem dX7_reserve_90 : decode cX7_reserve 90 = .ok (.ifCond .le 7, 3) := by decide +kernel
theorem dX7_reserve_93 : decode cX7_reserve 93 = .ok (.iconst 1, 1) := by decide +kernel
theorem dX7_reserve_94 : decode cX7_reserve 94 = .ok (.goto 4, 3) := by decide +kernel
theorem dX7_reserve_97 : decode cX7_reserve 97 = .ok (.iconst 0, 1) := by decide +kernel
theorem dX7_reserve_98 : decode cX7_reserve 98 = .ok (.istore 7, 2) := by decide +kernel
theorem dX7_reserve_100 : decode cX7_reserve 100 = .ok (.aload_n 0, 1) := by decide +kernel
theorem dX7_reserve_101 : decode cX7_reserve 101 = .ok (.getfield 13, 3) := by decide +kernel
theorem dX7_reserve_104 : decode cX7_reserve 104 = .ok (.iload 6, 2) := by decide +kernel
theorem dX7_reserve_106 : decode cX7_reserve 106 = .ok (.bipush 31, 2) := by decide +kernel
theorem dX7_reserve_108 : decode cX7_reserve 108 = .ok (.iadd, 1) := by decide +kernel
theorem dX7_reserve_109 : decode cX7_reserve 109 = .ok (.iload_n 3, 1) := by decide +kernel
theorem dX7_reserve_110 : decode cX7_reserve 110 = .ok (.iastore, 1) := by decide +kernel
theorem dX7_reserve_111 : decode cX7_reserve 111 = .ok (.aload_n 0, 1) := by decide +kernel
theorem dX7_reserve_112 : decode cX7_reserve 112 = .ok (.getfield 13, 3) := by decide +kernel
theorem dX7_reserve_115 : decode cX7_reserve 115 = .ok (.iload 6, 2) := by decide +kernel
theorem dX7_reserve_117 : decode cX7_reserve 117 = .ok (.bipush 32, 2) := by decide +kernel
theorem dX7_reserve_119 : decode cX7_reserve 119 = .ok (.iadd, 1) := by decide +kernel
theorem dX7_reserve_120 : decode cX7_reserve 120 = .ok (.iload_n 3, 1) := by decide +kernel
theorem dX7_reserve_121 : decode cX7_reserve 121 = .ok (.ifCond .le 8, 3) := by decide +kernel
theorem dX7_reserve_124 : decode cX7_reserve 124 = .ok (.iload 4, 2) := by decide +kernel
theorem dX7_reserve_126 : decode cX7_reserve 126 = .ok (.goto 4, 3) := by decide +kernel
theorem dX7_reserve_129 : decode cX7_reserve 129 = .ok (.iconst 0, 1) := by decide +kernel
theorem dX7_reserve_130 : decode cX7_reserve 130 = .ok (.iastore, 1) := by decide +kernel
theorem dX7_reserve_131 : decode cX7_reserve 131 = .ok (.aload_n 0, 1) := by decide +kernel
theorem dX7_reserve_132 : decode cX7_reserve 132 = .ok (.getfield 13, 3) := by decide +kernel
theorem dX7_reserve_135 : decode cX7_reserve 135 = .ok (.iload 6, 2) := by decide +kernel
theorem dX7_reserve_137 : decode cX7_reserve 137 = .ok (.bipush 33, 2) := by decide +kernel
theorem dX7_reserve_139 : decode cX7_reserve 139 = .ok (.iadd, 1) := by decide +kernel
theorem dX7_reserve_140 : decode cX7_reserve 140 = .ok (.iload_n 3, 1) := by decide +kernel
theorem dX7_reserve_141 : decode cX7_reserve 141 = .ok (.ifCond .le 8, 3) := by decide +kernel
theorem dX7_reserve_144 : decode cX7_reserve 144 = .ok (.iload 5, 2) := by decide +kernel
theorem dX7_reserve_146 : decode cX7_reserve 146 = .ok (.goto 4, 3) := by decide +kernel
theorem dX7_reserve_149 : decode cX7_reserve 149 = .ok (.iconst 0, 1) := by decide +kernel
theorem dX7_reserve_150 : decode cX7_reserve 150 = .ok (.iastore, 1) := by decide +kernel
theorem dX7_reserve_151 : decode cX7_reserve 151 = .ok (.aload_n 0, 1) := by decide +kernel
theorem dX7_reserve_152 : decode cX7_reserve 152 = .ok (.getfield 13, 3) := by decide +kernel
theorem dX7_reserve_155 : decode cX7_reserve 155 = .ok (.iload 6, 2) := by decide +kernel
theorem dX7_reserve_157 : decode cX7_reserve 157 = .ok (.bipush 34, 2) := by decide +kernel
theorem dX7_reserve_159 : decode cX7_reserve 159 = .ok (.iadd, 1) := by decide +kernel
theorem dX7_reserve_160 : decode cX7_reserve 160 = .ok (.iconst 0, 1) := by decide +kernel
theorem dX7_reserve_161 : decode cX7_reserve 161 = .ok (.iastore, 1) := by decide +kernel
theorem dX7_reserve_162 : decode cX7_reserve 162 = .ok (.aload_n 0, 1) := by decide +kernel
theorem dX7_reserve_163 : decode cX7_reserve 163 = .ok (.getfield 13, 3) := by decide +kernel
theorem dX7_reserve_166 : decode cX7_reserve 166 = .ok (.iload 6, 2) := by decide +kernel
theorem dX7_reserve_168 : decode cX7_reserve 168 = .ok (.bipush 35, 2) := by decide +kernel
theorem dX7_reserve_170 : decode cX7_reserve 170 = .ok (.iadd, 1) := by decide +kernel
theorem dX7_reserve_171 : decode cX7_reserve 171 = .ok (.iconst 0, 1) := by decide +kernel
theorem dX7_reserve_172 : decode cX7_reserve 172 = .ok (.iastore, 1) := by decide +kernel
theorem dX7_reserve_173 : decode cX7_reserve 173 = .ok (.aload_n 0, 1) := by decide +kernel
theorem dX7_reserve_174 : decode cX7_reserve 174 = .ok (.getfield 13, 3) := by decide +kernel
theorem dX7_reserve_177 : decode cX7_reserve 177 = .ok (.iload 6, 2) := by decide +kernel
theorem dX7_reserve_179 : decode cX7_reserve 179 = .ok (.bipush 36, 2) := by decide +kernel
theorem dX7_reserve_181 : decode cX7_reserve 181 = .ok (.iadd, 1) := by decide +kernel
theorem dX7_reserve_182 : decode cX7_reserve 182 = .ok (.iconst 0, 1) := by decide +kernel
theorem dX7_reserve_183 : decode cX7_reserve 183 = .ok (.iastore, 1) := by decide +kernel
theorem dX7_reserve_184 : decode cX7_reserve 184 = .ok (.aload_n 0, 1) := by decide +kernel
theorem dX7_reserve_185 : decode cX7_reserve 185 = .ok (.iload 7, 2) := by decide +kernel
theorem dX7_reserve_187 : decode cX7_reserve 187 = .ok (.invokevirtual 68, 3) := by decide +kernel
theorem dX7_reserve_190 : decode cX7_reserve 190 = .ok (.ireturn, 1) := by decide +kernel
theorem dX7_tellMap_0 : decode cX7_tellMap 0 = .ok (.iload_n 1, 1) := by decide +kernel
theorem dX7_tellMap_1 : decode cX7_tellMap 1 = .ok (.invokestatic 75, 3) := by decide +kernel
theorem dX7_tellMap_4 : decode cX7_tellMap 4 = .ok (.istore 4, 2) := by decide +kernel
theorem dX7_tellMap_6 : decode cX7_tellMap 6 = .ok (.aload_n 0, 1) := by decide +kernel
theorem dX7_tellMap_7 : decode cX7_tellMap 7 = .ok (.bipush 8, 2) := by decide +kernel
theorem dX7_tellMap_9 : decode cX7_tellMap 9 = .ok (.invokevirtual 118, 3) := by decide +kernel
theorem dX7_tellMap_12 : decode cX7_tellMap 12 = .ok (.aload_n 0, 1) := by decide +kernel
theorem dX7_tellMap_13 : decode cX7_tellMap 13 = .ok (.getfield 13, 3) := by decide +kernel
theorem dX7_tellMap_16 : decode cX7_tellMap 16 = .ok (.iload 4, 2) := by decide +kernel
theorem dX7_tellMap_18 : decode cX7_tellMap 18 = .ok (.iconst 3, 1) := by decide +kernel
theorem dX7_tellMap_19 : decode cX7_tellMap 19 = .ok (.iadd, 1) := by decide +kernel
theorem dX7_tellMap_20 : decode cX7_tellMap 20 = .ok (.iload_n 2, 1) := by decide +kernel
theorem dX7_tellMap_21 : decode cX7_tellMap 21 = .ok (.iastore, 1) := by decide +kernel
theorem dX7_tellMap_22 : decode cX7_tellMap 22 = .ok (.aload_n 0, 1) := by decide +kernel
theorem dX7_tellMap_23 : decode cX7_tellMap 23 = .ok (.getfield 13, 3) := by decide +kernel
theorem dX7_tellMap_26 : decode cX7_tellMap 26 = .ok (.iload 4, 2) := by decide +kernel
theorem dX7_tellMap_28 : decode cX7_tellMap 28 = .ok (.iconst 4, 1) := by decide +kernel
theorem dX7_tellMap_29 : decode cX7_tellMap 29 = .ok (.iadd, 1) := by decide +kernel
theorem dX7_tellMap_30 : decode cX7_tellMap 30 = .ok (.aload_n 0, 1) := by decide +kernel
theorem dX7_tellMap_31 : decode cX7_tellMap 31 = .ok (.getfield 13, 3) := by decide +kernel
theorem dX7_tellMap_34 : decode cX7_tellMap 34 = .ok (.bipush 7, 2) := by decide +kernel
theorem dX7_tellMap_36 : decode cX7_tellMap 36 = .ok (.iaload, 1) := by decide +kernel
theorem dX7_tellMap_37 : decode cX7_tellMap 37 = .ok (.iconst 2, 1) := by decide +kernel
theorem dX7_tellMap_38 : decode cX7_tellMap 38 = .ok (.iload_n 3, 1) := by decide +kernel
theorem dX7_tellMap_39 : decode cX7_tellMap 39 = .ok (.imul, 1) := by decide +kernel
theorem dX7_tellMap_40 : decode cX7_tellMap 40 = .ok (.iadd, 1) := by decide +kernel
theorem dX7_tellMap_41 : decode cX7_tellMap 41 = .ok (.iastore, 1) := by decide +kernel
theorem dX7_tellMap_42 : decode cX7_tellMap 42 = .ok (.iconst 0, 1) := by decide +kernel
theorem dX7_tellMap_43 : decode cX7_tellMap 43 = .ok (.istore 5, 2) := by decide +kernel
theorem dX7_tellMap_45 : decode cX7_tellMap 45 = .ok (.iload 5, 2) := by decide +kernel
theorem dX7_tellMap_47 : decode cX7_tellMap 47 = .ok (.aload_n 0, 1) := by decide +kernel
theorem dX7_tellMap_48 : decode cX7_tellMap 48 = .ok (.getfield 13, 3) := by decide +kernel
theorem dX7_tellMap_51 : decode cX7_tellMap 51 = .ok (.iload 4, 2) := by decide +kernel
theorem dX7_tellMap_53 : decode cX7_tellMap 53 = .ok (.bipush 6, 2) := by decide +kernel
theorem dX7_tellMap_55 : decode cX7_tellMap 55 = .ok (.iadd, 1) := by decide +kernel
theorem dX7_tellMap_56 : decode cX7_tellMap 56 = .ok (.iaload, 1) := by decide +kernel
theorem dX7_tellMap_57 : decode cX7_tellMap 57 = .ok (.if_icmp .ge 23, 3) := by decide +kernel
theorem dX7_tellMap_60 : decode cX7_tellMap 60 = .ok (.aload_n 0, 1) := by decide +kernel
theorem dX7_tellMap_61 : decode cX7_tellMap 61 = .ok (.getfield 13, 3) := by decide +kernel
theorem dX7_tellMap_64 : decode cX7_tellMap 64 = .ok (.iload_n 1, 1) := by decide +kernel
theorem dX7_tellMap_65 : decode cX7_tellMap 65 = .ok (.iload 5, 2) := by decide +kernel
theorem dX7_tellMap_67 : decode cX7_tellMap 67 = .ok (.invokestatic 82, 3) := by decide +kernel
theorem dX7_tellMap_70 : decode cX7_tellMap 70 = .ok (.iconst 4, 1) := by decide +kernel
theorem dX7_tellMap_71 : decode cX7_tellMap 71 = .ok (.iadd, 1) := by decide +kernel
theorem dX7_tellMap_72 : decode cX7_tellMap 72 = .ok (.iconst 0, 1) := by decide +kernel
theorem dX7_tellMap_73 : decode cX7_tellMap 73 = .ok (.iastore, 1) := by decide +kernel
theorem dX7_tellMap_74 : decode cX7_tellMap 74 = .ok (.iinc 5 1, 3) := by decide +kernel
theorem dX7_tellMap_77 : decode cX7_tellMap 77 = .ok (.goto (-32), 3) := by decide +kernel
theorem dX7_tellMap_80 : decode cX7_tellMap 80 = .ok (.aload_n 0, 1) := by decide +kernel
theorem dX7_tellMap_81 : decode cX7_tellMap 81 = .ok (.aload_n 0, 1) := by decide +kernel
theorem dX7_tellMap_82 : decode cX7_tellMap 82 = .ok (.getfield 13, 3) := by decide +kernel
theorem dX7_tellMap_85 : decode cX7_tellMap 85 = .ok (.iload 4, 2) := by decide +kernel
theorem dX7_tellMap_87 : decode cX7_tellMap 87 = .ok (.iconst 4, 1) := by decide +kernel
theorem dX7_tellMap_88 : decode cX7_tellMap 88 = .ok (.iadd, 1) := by decide +kernel
theorem dX7_tellMap_89 : decode cX7_tellMap 89 = .ok (.iaload, 1) := by decide +kernel
theorem dX7_tellMap_90 : decode cX7_tellMap 90 = .ok (.invokevirtual 68, 3) := by decide +kernel
theorem dX7_tellMap_93 : decode cX7_tellMap 93 = .ok (.ireturn, 1) := by decide +kernel
theorem dX7_map_0 : decode cX7_map 0 = .ok (.aload_n 0, 1) := by decide +kernel
theorem dX7_map_1 : decode cX7_map 1 = .ok (.iconst 0, 1) := by decide +kernel
theorem dX7_map_2 : decode cX7_map 2 = .ok (.putfield 50, 3) := by decide +kernel
theorem dX7_map_5 : decode cX7_map 5 = .ok (.iload_n 2, 1) := by decide +kernel
theorem dX7_map_6 : decode cX7_map 6 = .ok (.i2l, 1) := by decide +kernel
theorem dX7_map_7 : decode cX7_map 7 = .ok (.lconst 0, 1) := by decide +kernel
theorem dX7_map_8 : decode cX7_map 8 = .ok (.ldc2_w 155, 3) := by decide +kernel
theorem dX7_map_11 : decode cX7_map 11 = .ok (.invokestatic 71, 3) := by decide +kernel
theorem dX7_map_14 : decode cX7_map 14 = .ok (.ifCond .eq 24, 3) := by decide +kernel
theorem dX7_map_17 : decode cX7_map 17 = .ok (.iload_n 2, 1) := by decide +kernel
theorem dX7_map_18 : decode cX7_map 18 = .ok (.invokestatic 93, 3) := by decide +kernel
theorem dX7_map_21 : decode cX7_map 21 = .ok (.bipush 8, 2) := by decide +kernel
theorem dX7_map_23 : decode cX7_map 23 = .ok (.if_icmp .lt 15, 3) := by decide +kernel
theorem dX7_map_26 : decode cX7_map 26 = .ok (.iload_n 3, 1) := by decide +kernel
theorem dX7_map_27 : decode cX7_map 27 = .ok (.i2l, 1) := by decide +kernel
theorem dX7_map_28 : decode cX7_map 28 = .ok (.lconst 1, 1) := by decide +kernel
theorem dX7_map_29 : decode cX7_map 29 = .ok (.ldc2_w 157, 3) := by decide +kernel
theorem dX7_map_32 : decode cX7_map 32 = .ok (.invokestatic 71, 3) := by decide +kernel
theorem dX7_map_35 : decode cX7_map 35 = .ok (.ifCond .ne 9, 3) := by decide +kernel
theorem dX7_map_38 : decode cX7_map 38 = .ok (.aload_n 0, 1) := by decide +kernel
theorem dX7_map_39 : decode cX7_map 39 = .ok (.iconst (-1), 1) := by decide +kernel
theorem dX7_map_40 : decode cX7_map 40 = .ok (.invokevirtual 64, 3) := by decide +kernel
theorem dX7_map_43 : decode cX7_map 43 = .ok (.ireturn, 1) := by decide +kernel
theorem dX7_map_44 : decode cX7_map 44 = .ok (.aload_n 0, 1) := by decide +kernel
theorem dX7_map_45 : decode cX7_map 45 = .ok (.iload_n 1, 1) := by decide +kernel
theorem dX7_map_46 : decode cX7_map 46 = .ok (.invokevirtual 78, 3) := by decide +kernel
theorem dX7_map_49 : decode cX7_map 49 = .ok (.ifCond .ne 10, 3) := by decide +kernel
theorem dX7_map_52 : decode cX7_map 52 = .ok (.aload_n 0, 1) := by decide +kernel
theorem dX7_map_53 : decode cX7_map 53 = .ok (.bipush (-2), 2) := by decide +kernel
theorem dX7_map_55 : decode cX7_map 55 = .ok (.invokevirtual 64, 3) := by decide +kernel
theorem dX7_map_58 : decode cX7_map 58 = .ok (.ireturn, 1) := by decide +kernel
theorem dX7_map_59 : decode cX7_map 59 = .ok (.aload_n 0, 1) := by decide +kernel
theorem dX7_map_60 : decode cX7_map 60 = .ok (.getfield 13, 3) := by decide +kernel
theorem dX7_map_63 : decode cX7_map 63 = .ok (.iload_n 1, 1) := by decide +kernel
theorem dX7_map_64 : decode cX7_map 64 = .ok (.invokestatic 75, 3) := by decide +kernel
theorem dX7_map_67 : decode cX7_map 67 = .ok (.iconst 3, 1) := by decide +kernel
theorem dX7_map_68 : decode cX7_map 68 = .ok (.iadd, 1) := by decide +kernel
theorem dX7_map_69 : decode cX7_map 69 = .ok (.iaload, 1) := by decide +kernel
theorem dX7_map_70 : decode cX7_map 70 = .ok (.ifCond .eq 12, 3) := by decide +kernel
theorem dX7_map_73 : decode cX7_map 73 = .ok (.aload_n 0, 1) := by decide +kernel
theorem dX7_map_74 : decode cX7_map 74 = .ok (.bipush (-4), 2) := by decide +kernel
theorem dX7_map_76 : decode cX7_map 76 = .ok (.invokevirtual 64, 3) := by decide +kernel
theorem dX7_map_79 : decode cX7_map 79 = .ok (.goto 10, 3) := by decide +kernel
theorem dX7_map_82 : decode cX7_map 82 = .ok (.aload_n 0, 1) := by decide +kernel
theorem dX7_map_83 : decode cX7_map 83 = .ok (.iload_n 1, 1) := by decide +kernel
theorem dX7_map_84 : decode cX7_map 84 = .ok (.iload_n 2, 1) := by decide +kernel
theorem dX7_map_85 : decode cX7_map 85 = .ok (.iload_n 3, 1) := by decide +kernel
theorem dX7_map_86 : decode cX7_map 86 = .ok (.invokevirtual 159, 3) := by decide +kernel
theorem dX7_map_89 : decode cX7_map 89 = .ok (.ireturn, 1) := by decide +kernel
theorem dX7_adapt_0 : decode cX7_adapt 0 = .ok (.aload_n 0, 1) := by decide +kernel
theorem dX7_adapt_1 : decode cX7_adapt 1 = .ok (.iconst 0, 1) := by decide +kernel
theorem dX7_adapt_2 : decode cX7_adapt 2 = .ok (.putfield 50, 3) := by decide +kernel
theorem dX7_adapt_5 : decode cX7_adapt 5 = .ok (.iload_n 2, 1) := by decide +kernel
theorem dX7_adapt_6 : decode cX7_adapt 6 = .ok (.i2l, 1) := by decide +kernel
theorem dX7_adapt_7 : decode cX7_adapt 7 = .ok (.lconst 1, 1) := by decide +kernel
theorem dX7_adapt_8 : decode cX7_adapt 8 = .ok (.ldc2_w 162, 3) := by decide +kernel
theorem dX7_adapt_11 : decode cX7_adapt 11 = .ok (.invokestatic 71, 3) := by decide +kernel
theorem dX7_adapt_14 : decode cX7_adapt 14 = .ok (.ifCond .eq 15, 3) := by decide +kernel
theorem dX7_adapt_17 : decode cX7_adapt 17 = .ok (.iload_n 3, 1) := by decide +kernel
theorem dX7_adapt_18 : decode cX7_adapt 18 = .ok (.i2l, 1) := by decide +kernel
theorem dX7_adapt_19 : decode cX7_adapt 19 = .ok (.lconst 1, 1) := by decide +kernel
theorem dX7_adapt_20 : decode cX7_adapt 20 = .ok (.ldc2_w 157, 3) := by decide +kernel
theorem dX7_adapt_23 : decode cX7_adapt 23 = .ok (.invokestatic 71, 3) := by decide +kernel
theorem dX7_adapt_26 : decode cX7_adapt 26 = .ok (.ifCond .ne 9, 3) := by decide +kernel
theorem dX7_adapt_29 : decode cX7_adapt 29 = .ok (.aload_n 0, 1) := by decide +kernel
theorem dX7_adapt_30 : decode cX7_adapt 30 = .ok (.iconst (-1), 1) := by decide +kernel
theorem dX7_adapt_31 : decode cX7_adapt 31 = .ok (.invokevirtual 64, 3) := by decide +kernel
theorem dX7_adapt_34 : decode cX7_adapt 34 = .ok (.ireturn, 1) := by decide +kernel
theorem dX7_adapt_35 : decode cX7_adapt 35 = .ok (.aload_n 0, 1) := by decide +kernel
theorem dX7_adapt_36 : decode cX7_adapt 36 = .ok (.iload_n 1, 1) := by decide +kernel
theorem dX7_adapt_37 : decode cX7_adapt 37 = .ok (.invokevirtual 78, 3) := by decide +kernel
theorem dX7_adapt_40 : decode cX7_adapt 40 = .ok (.ifCond .ne 10, 3) := by decide +kernel
theorem dX7_adapt_43 : decode cX7_adapt 43 = .ok (.aload_n 0, 1) := by decide +kernel
theorem dX7_adapt_44 : decode cX7_adapt 44 = .ok (.bipush (-2), 2) := by decide +kernel
theorem dX7_adapt_46 : decode cX7_adapt 46 = .ok (.invokevirtual 64, 3) := by decide +kernel
theorem dX7_adapt_49 : decode cX7_adapt 49 = .ok (.ireturn, 1) := by decide +kernel
theorem dX7_adapt_50 : decode cX7_adapt 50 = .ok (.iload_n 1, 1) := by decide +kernel
theorem dX7_adapt_51 : decode cX7_adapt 51 = .ok (.invokestatic 75, 3) := by decide +kernel
theorem dX7_adapt_54 : decode cX7_adapt 54 = .ok (.istore 4, 2) := by decide +kernel
theorem dX7_adapt_56 : decode cX7_adapt 56 = .ok (.aload_n 0, 1) := by decide +kernel
theorem dX7_adapt_57 : decode cX7_adapt 57 = .ok (.iload_n 1, 1) := by decide +kernel
theorem dX7_adapt_58 : decode cX7_adapt 58 = .ok (.iload_n 2, 1) := by decide +kernel
theorem dX7_adapt_59 : decode cX7_adapt 59 = .ok (.invokevirtual 164, 3) := by decide +kernel
theorem dX7_adapt_62 : decode cX7_adapt 62 = .ok (.istore 5, 2) := by decide +kernel
theorem dX7_adapt_64 : decode cX7_adapt 64 = .ok (.aload_n 0, 1) := by decide +kernel
theorem dX7_adapt_65 : decode cX7_adapt 65 = .ok (.getfield 13, 3) := by decide +kernel
theorem dX7_adapt_68 : decode cX7_adapt 68 = .ok (.iload 4, 2) := by decide +kernel
theorem dX7_adapt_70 : decode cX7_adapt 70 = .ok (.iconst 3, 1) := by decide +kernel
theorem dX7_adapt_71 : decode cX7_adapt 71 = .ok (.iadd, 1) := by decide +kernel
theorem dX7_adapt_72 : decode cX7_adapt 72 = .ok (.iaload, 1) := by decide +kernel
theorem dX7_adapt_73 : decode cX7_adapt 73 = .ok (.ifCond .ne 8, 3) := by decide +kernel
theorem dX7_adapt_76 : decode cX7_adapt 76 = .ok (.iload 5, 2) := by decide +kernel
theorem dX7_adapt_78 : decode cX7_adapt 78 = .ok (.ifCond .ne 10, 3) := by decide +kernel
theorem dX7_adapt_81 : decode cX7_adapt 81 = .ok (.aload_n 0, 1) := by decide +kernel
theorem dX7_adapt_82 : decode cX7_adapt 82 = .ok (.bipush (-4), 2) := by decide +kernel
theorem dX7_adapt_84 : decode cX7_adapt 84 = .ok (.invokevirtual 64, 3) := by decide +kernel
theorem dX7_adapt_87 : decode cX7_adapt 87 = .ok (.ireturn, 1) := by decide +kernel
theorem dX7_adapt_88 : decode cX7_adapt 88 = .ok (.aload_n 0, 1) := by decide +kernel
theorem dX7_adapt_89 : decode cX7_adapt 89 = .ok (.getfield 13, 3) := by decide +kernel
theorem dX7_adapt_92 : decode cX7_adapt 92 = .ok (.iload 4, 2) := by decide +kernel
theorem dX7_adapt_94 : decode cX7_adapt 94 = .ok (.iconst 2, 1) := by decide +kernel
theorem dX7_adapt_95 : decode cX7_adapt 95 = .ok (.iadd, 1) := by decide +kernel
theorem dX7_adapt_96 : decode cX7_adapt 96 = .ok (.iaload, 1) := by decide +kernel
theorem dX7_adapt_97 : decode cX7_adapt 97 = .ok (.iload 5, 2) := by decide +kernel
theorem dX7_adapt_99 : decode cX7_adapt 99 = .ok (.iconst (-1), 1) := by decide +kernel
theorem dX7_adapt_100 : decode cX7_adapt 100 = .ok (.ixor, 1) := by decide +kernel
theorem dX7_adapt_101 : decode cX7_adapt 101 = .ok (.iand, 1) := by decide +kernel
theorem dX7_adapt_102 : decode cX7_adapt 102 = .ok (.istore 6, 2) := by decide +kernel
theorem dX7_adapt_104 : decode cX7_adapt 104 = .ok (.iload 6, 2) := by decide +kernel
theorem dX7_adapt_106 : decode cX7_adapt 106 = .ok (.invokestatic 93, 3) := by decide +kernel
theorem dX7_adapt_109 : decode cX7_adapt 109 = .ok (.bipush 8, 2) := by decide +kernel
theorem dX7_adapt_111 : decode cX7_adapt 111 = .ok (.if_icmp .ge 66, 3) := by decide +kernel
theorem dX7_adapt_114 : decode cX7_adapt 114 = .ok (.iconst 0, 1) := by decide +kernel
theorem dX7_adapt_115 : decode cX7_adapt 115 = .ok (.istore 6, 2) := by decide +kernel
theorem dX7_adapt_117 : decode cX7_adapt 117 = .ok (.iconst 0, 1) := by decide +kernel
theorem dX7_adapt_118 : decode cX7_adapt 118 = .ok (.istore 7, 2) := by decide +kernel
theorem dX7_adapt_120 : decode cX7_adapt 120 = .ok (.iload 7, 2) := by decide +kernel
theorem dX7_adapt_122 : decode cX7_adapt 122 = .ok (.bipush 23, 2) := by decide +kernel
theorem dX7_adapt_124 : decode cX7_adapt 124 = .ok (.if_icmp .ge 53, 3) := by decide +kernel
theorem dX7_adapt_127 : decode cX7_adapt 127 = .ok (.iload 6, 2) := by decide +kernel
theorem dX7_adapt_129 : decode cX7_adapt 129 = .ok (.aload_n 0, 1) := by decide +kernel
theorem dX7_adapt_130 : decode cX7_adapt 130 = .ok (.getfield 13, 3) := by decide +kernel
theorem dX7_adapt_133 : decode cX7_adapt 133 = .ok (.iload 4, 2) := by decide +kernel
theorem dX7_adapt_135 : decode cX7_adapt 135 = .ok (.iconst 2, 1) := by decide +kernel
theorem dX7_adapt_136 : decode cX7_adapt 136 = .ok (.iadd, 1) := by decide +kernel
theorem dX7_adapt_137 : decode cX7_adapt 137 = .ok (.iaload, 1) := by decide +kernel
theorem dX7_adapt_138 : decode cX7_adapt 138 = .ok (.iload 7, 2) := by decide +kernel
theorem dX7_adapt_140 : decode cX7_adapt 140 = .ok (.ishr, 1) := by decide +kernel
theorem dX7_adapt_141 : decode cX7_adapt 141 = .ok (.iconst 1, 1) := by decide +kernel
theorem dX7_adapt_142 : decode cX7_adapt 142 = .ok (.iand, 1) := by decide +kernel
theorem dX7_adapt_143 : decode cX7_adapt 143 = .ok (.iconst 1, 1) := by decide +kernel
theorem dX7_adapt_144 : decode cX7_adapt 144 = .ok (.if_icmp .ne 23, 3) := by decide +kernel
theorem dX7_adapt_147 : decode cX7_adapt 147 = .ok (.aload_n 0, 1) := by decide +kernel
theorem dX7_adapt_148 : decode cX7_adapt 148 = .ok (.iload 4, 2) := by decide +kernel
theorem dX7_adapt_150 : decode cX7_adapt 150 = .ok (.iload 7, 2) := by decide +kernel
theorem dX7_adapt_152 : decode cX7_adapt 152 = .ok (.invokevirtual 167, 3) := by decide +kernel
theorem dX7_adapt_155 : decode cX7_adapt 155 = .ok (.bipush 8, 2) := by decide +kernel
theorem dX7_adapt_157 : decode cX7_adapt 157 = .ok (.if_icmp .ge 10, 3) := by decide +kernel
theorem dX7_adapt_160 : decode cX7_adapt 160 = .ok (.iconst 1, 1) := by decide +kernel
theorem dX7_adapt_161 : decode cX7_adapt 161 = .ok (.iload 7, 2) := by decide +kernel
theorem dX7_adapt_163 : decode cX7_adapt 163 = .ok (.ishl, 1) := by decide +kernel
theorem dX7_adapt_164 : decode cX7_adapt 164 = .ok (.goto 4, 3) := by decide +kernel
theorem dX7_adapt_167 : decode cX7_adapt 167 = .ok (.iconst 0, 1) := by decide +kernel
theorem dX7_adapt_168 : decode cX7_adapt 168 = .ok (.ior, 1) := by decide +kernel
theorem dX7_adapt_169 : decode cX7_adapt 169 = .ok (.istore 6, 2) := by decide +kernel
theorem dX7_adapt_171 : decode cX7_adapt 171 = .ok (.iinc 7 1, 3) := by decide +kernel
theorem dX7_adapt_174 : decode cX7_adapt 174 = .ok (.goto (-54), 3) := by decide +kernel
theorem dX7_adapt_177 : decode cX7_adapt 177 = .ok (.aload_n 0, 1) := by decide +kernel
theorem dX7_adapt_178 : decode cX7_adapt 178 = .ok (.iload_n 1, 1) := by decide +kernel
theorem dX7_adapt_179 : decode cX7_adapt 179 = .ok (.iload 6, 2) := by decide +kernel
theorem dX7_adapt_181 : decode cX7_adapt 181 = .ok (.iload_n 3, 1) := by decide +kernel
theorem dX7_adapt_182 : decode cX7_adapt 182 = .ok (.invokevirtual 159, 3) := by decide +kernel
theorem dX7_adapt_185 : decode cX7_adapt 185 = .ok (.ireturn, 1) := by decide +kernel
theorem dX7_run_0 : decode cX7_run 0 = .ok (.aload_n 0, 1) := by decide +kernel
theorem dX7_run_1 : decode cX7_run 1 = .ok (.iconst 0, 1) := by decide +kernel
theorem dX7_run_2 : decode cX7_run 2 = .ok (.putfield 50, 3) := by decide +kernel
theorem dX7_run_5 : decode cX7_run 5 = .ok (.iload_n 1, 1) := by decide +kernel
theorem dX7_run_6 : decode cX7_run 6 = .ok (.i2l, 1) := by decide +kernel
theorem dX7_run_7 : decode cX7_run 7 = .ok (.lconst 1, 1) := by decide +kernel
theorem dX7_run_8 : decode cX7_run 8 = .ok (.ldc2_w 239, 3) := by decide +kernel
theorem dX7_run_11 : decode cX7_run 11 = .ok (.invokestatic 71, 3) := by decide +kernel
theorem dX7_run_14 : decode cX7_run 14 = .ok (.ifCond .ne 9, 3) := by decide +kernel
theorem dX7_run_17 : decode cX7_run 17 = .ok (.aload_n 0, 1) := by decide +kernel
theorem dX7_run_18 : decode cX7_run 18 = .ok (.iconst (-1), 1) := by decide +kernel
theorem dX7_run_19 : decode cX7_run 19 = .ok (.invokevirtual 64, 3) := by decide +kernel
theorem dX7_run_22 : decode cX7_run 22 = .ok (.ireturn, 1) := by decide +kernel
theorem dX7_run_23 : decode cX7_run 23 = .ok (.aload_n 0, 1) := by decide +kernel
theorem dX7_run_24 : decode cX7_run 24 = .ok (.getfield 13, 3) := by decide +kernel
theorem dX7_run_27 : decode cX7_run 27 = .ok (.bipush 7, 2) := by decide +kernel
theorem dX7_run_29 : decode cX7_run 29 = .ok (.iaload, 1) := by decide +kernel
theorem dX7_run_30 : decode cX7_run 30 = .ok (.iconst 2, 1) := by decide +kernel
theorem dX7_run_31 : decode cX7_run 31 = .ok (.iload_n 1, 1) := by decide +kernel
theorem dX7_run_32 : decode cX7_run 32 = .ok (.imul, 1) := by decide +kernel
theorem dX7_run_33 : decode cX7_run 33 = .ok (.iadd, 1) := by decide +kernel
theorem dX7_run_34 : decode cX7_run 34 = .ok (.ldc 241, 2) := by decide +kernel
theorem dX7_run_36 : decode cX7_run 36 = .ok (.if_icmp .le 10, 3) := by decide +kernel
theorem dX7_run_39 : decode cX7_run 39 = .ok (.aload_n 0, 1) := by decide +kernel
theorem dX7_run_40 : decode cX7_run 40 = .ok (.bipush (-4), 2) := by decide +kernel
theorem dX7_run_42 : decode cX7_run 42 = .ok (.invokevirtual 64, 3) := by decide +kernel
theorem dX7_run_45 : decode cX7_run 45 = .ok (.ireturn, 1) := by decide +kernel
theorem dX7_run_46 : decode cX7_run 46 = .ok (.aload_n 0, 1) := by decide +kernel
theorem dX7_run_47 : decode cX7_run 47 = .ok (.bipush 9, 2) := by decide +kernel
theorem dX7_run_49 : decode cX7_run 49 = .ok (.invokevirtual 118, 3) := by decide +kernel
theorem dX7_run_52 : decode cX7_run 52 = .ok (.aload_n 0, 1) := by decide +kernel
theorem dX7_run_53 : decode cX7_run 53 = .ok (.iload_n 1, 1) := by decide +kernel
theorem dX7_run_54 : decode cX7_run 54 = .ok (.invokevirtual 242, 3) := by decide +kernel
theorem dX7_run_57 : decode cX7_run 57 = .ok (.aload_n 0, 1) := by decide +kernel
theorem dX7_run_58 : decode cX7_run 58 = .ok (.aload_n 0, 1) := by decide +kernel
theorem dX7_run_59 : decode cX7_run 59 = .ok (.getfield 189, 3) := by decide +kernel
theorem dX7_run_62 : decode cX7_run 62 = .ok (.invokevirtual 68, 3) := by decide +kernel
theorem dX7_run_65 : decode cX7_run 65 = .ok (.ireturn, 1) := by decide +kernel
theorem lk_RX7_118 : LkV RX7 118 RX7 yX7_remember cX7_remember 3 none 1 := ⟨⟨mw_1156, mw_1158, mw_15, mw_59, mw_1159⟩, by decide +kernel⟩
theorem lk_RX7_64 : LkV RX7 64 RX7 yX7_refuse cX7_refuse 2 (some .int) 1 := ⟨⟨mw_1086, mw_1088, mw_9, mw_59, mw_1089⟩, by decide +kernel⟩
theorem lk_RX7_68 : LkV RX7 68 RX7 yX7_tell cX7_tell 2 (some .int) 1 := ⟨⟨mw_1093, mw_1095, mw_10, mw_59, mw_1096⟩, by decide +kernel⟩
set_option maxHeartbeats 4000000 in
set_option maxRecDepth 100000 in
theorem d_X7_radio (l : Launch) (E : hE) (ρ r : Nat → Nat → Int32) (M : Nat → Int32) (L : Nat → Nat) (hJ : PJ r M L ρ) (a1 : Int32) : Met l yX7_radio (.code yX7_radio cX7_radio 3 (some .int) :: gw_all) (rmk 2 80) (cPre E ρ [.ref (E.2.1 + 1076), .int a1]) (cI E (fun v ρ1 => PJ r M L ρ1)) 0 0 (hA E) := by
  refine ent (own := RX7) (by decide) rfl (Nat.le_of_ble_eq_true rfl) ?_
  intro p e s m below meth c ls B hr hlk hl hP hS
  have hx := B.1.1
  have hb := B.1.2.1
  have hown := B.1.2.2.2.1
  have hts := B.1.2.2.2.2
  have hl : lv_has ls 3 [(0, .ref (E.2.1 + 1076)), (1, .int a1)] := hl
  have hQ := hJ.1
  have hI := PJ_I hJ
  refine lv_aload_n hx hb dX7_radio_0 rfl (lv_at hl 0 rfl) ?_
  refine lv_iconst (v := 0) hx hb dX7_radio_1 (by decide) ?_
  refine put7 B hP hS (show hk 1076 = 7 by decide +kernel) 0 (by decide) mw_1027 rfl rfl rfl (fs7_0 E 1076 _ _) dX7_radio_2 (fun H locs hP hS => ?_)
  obtain ⟨ρ35, e36⟩ : ∃ z, z = up ρ 1076 0 0 := ⟨_, rfl⟩
  rw [← e36] at hP
  have hI : RI ρ 99998 M L X0 ρ35 := by rw [e36]; exact RI_76 hI (by decide)
  refine lv_iload_n hx hb dX7_radio_5 rfl (lv_at hl 1 rfl) ?_
  refine lv_i2l hx hb dX7_radio_6 rfl ?_
  refine lv_lconst (v := 0) hx hb dX7_radio_7 (by decide) ?_
  refine lv_ldc2 (v := 268435455) hx hb hown (hts _ mw_1112) dX7_radio_8 ?_
  refine call_i (cS (av := [.long a1.toInt64, .long 0, .long 268435455]) (rest := []) B hP hS (c_in l E ρ35 a1.toInt64 0 268435455 0 268435455 (by decide) (by decide)) lk_RX7_71 rfl rfl hl.1 (Nat.le_of_ble_eq_true rfl) ⟨Nat.le_of_ble_eq_true rfl, Nat.le_of_ble_eq_true rfl⟩ ⟨Nat.le_of_ble_eq_true rfl, Nat.le_of_ble_eq_true rfl⟩ dX7_radio_11) hS (fun r37 ρ38 H locs q39 hP hS => ?_)
  obtain ⟨rfl, q39⟩ := q39
  rcases q39 with ⟨rfl, q39⟩ | ⟨rfl, q39⟩
  · skip
    have i40 : iR a1 0 268435455 := (lR_i _ _ _).mp q39
    refine lv_if_ne (tgt := 23) hx hb dX7_radio_14 (by decide) (fun _ => ?_) (fun c41 => absurd c41 (iR_ne (show iR 1 (1) (1) from ⟨by decide, by decide⟩) (show iR 0 (0) (0) from ⟨by decide, by decide⟩) (by decide)))
    refine lv_aload_n hx hb dX7_radio_23 rfl (lv_at hl 0 rfl) ?_
    refine get7 B hP (show hk 1076 = 7 by decide +kernel) 3 (by decide) mw_1030 rfl dX7_radio_24 ?_
    refine lv_iconst (v := 0) hx hb dX7_radio_27 (by decide) ?_
    refine aldn (n := 695) (j := 0) B hP (show hk 1078 = 8 by decide +kernel) (show hlen 1078 = 695 by decide +kernel) rfl (by omega) (by decide) dX7_radio_28 ?_
    have i42 : iR (ρ35 1078 0) (0) (6) := g_nradio hI
    obtain ⟨j43, lj43, uj43, ej43⟩ := iR_nat (a := 0) (b := 6) i42
    refine lv_topi (fun z44 ez44 => ?_)
    obtain rfl : z44 = nI j43 := ez44.trans ej43
    refine lv_istore_n (lv' := [(2, .int (nI j43)), (0, .ref (E.2.1 + 1076)), (1, .int a1)]) hx hb dX7_radio_29 rfl hl (by decide) rfl (fun ls hl => ?_)
    refine lv_iload_n hx hb dX7_radio_30 rfl (lv_at hl 0 rfl) ?_
    refine lv_bipush (v := 6) hx hb dX7_radio_31 (by decide) ?_
    refine lv_icmp_ne (tgt := 43) hx hb dX7_radio_33 (by decide) (fun c45 => ?_) (fun c45 => ?_)
    · skip
      have n46 := mt (nI_eq (a := j43) (b := 6) (by omega) (by omega)).mpr (show ¬ (nI j43 = nI 6) from c45)
      refine lv_aload_n hx hb dX7_radio_43 rfl (lv_at hl 1 rfl) ?_
      refine lv_iconst (v := 0) hx hb dX7_radio_44 (by decide) ?_
      refine call_v (cVt (k := 1076) (av := [.int 0]) (rest := []) B hP hS (d_X7_remember l E ρ35 r M L (PJ_RI hQ hI) ρ35 rfl 0) lk_RX7_118 (hrecv (ci := 7) B hP (hk_lt (c := 7) (show hk 1076 = 7 by decide +kernel) (by decide)) (hcc7 _ _ (show hk 1076 = 7 by decide +kernel)) rfl) rfl rfl hl.1 (Nat.le_of_ble_eq_true rfl) ⟨Nat.le_of_ble_eq_true rfl, Nat.le_of_ble_eq_true rfl⟩ ⟨Nat.le_of_ble_eq_true rfl, Nat.le_of_ble_eq_true rfl⟩ dX7_radio_45) hS (fun ρ48 H locs q49 hP hS => ?_)
      obtain ⟨hJ2, hrow50⟩ := q49
      have hJ2 := hJ2
      have hQ := hJ2.1
      have hI := PJ_I hJ2
      refine lv_aload_n hx hb dX7_radio_48 rfl (lv_at hl 1 rfl) ?_
      refine get7 B hP (show hk 1076 = 7 by decide +kernel) 3 (by decide) mw_1030 rfl dX7_radio_49 ?_
      refine lv_iconst (v := 1) hx hb dX7_radio_52 (by decide) ?_
      refine lv_iload_n hx hb dX7_radio_53 rfl (lv_at hl 0 rfl) ?_
      refine lv_iadd hx hb dX7_radio_54 ?_
      refine lv_topi (fun z51 ez51 => ?_)
      obtain rfl : z51 = (nI (1 + j43)) := ez51.trans (by rw [show 1 = nI 1 from rfl, show (nI j43) = nI j43 from rfl, nI_add] <;> exact congrArg nI (by omega))
      refine lv_iload_n hx hb dX7_radio_55 rfl (lv_at hl 2 rfl) ?_
      have := nn_r (x := a1) (a := 0) (b := 268435455) i40 (by decide)
      refine lv_topi (fun z52 ez52 => ?_)
      obtain rfl : z52 = nI (nn a1) := ez52.trans (nn_eq a1)
      refine astn (n := 695) (j := (1 + j43)) B hP hS (show hk 1078 = 8 by decide +kernel) (show hlen 1078 = 695 by decide +kernel) rfl (by omega) (by decide) dX7_radio_56 (fun H locs hP hS => ?_)
      obtain ⟨ρ53, e54⟩ : ∃ z, z = up ρ48 1078 (1 + j43) (nI (nn a1)) := ⟨_, rfl⟩
      rw [← e54] at hP
      have hI : RI ρ48 99998 M L X0 ρ53 := by rw [e54]; exact RI_up hI (ok_head (by omega) (by omega) (by omega))
      refine lv_aload_n hx hb dX7_radio_57 rfl (lv_at hl 1 rfl) ?_
      refine get7 B hP (show hk 1076 = 7 by decide +kernel) 3 (by decide) mw_1030 rfl dX7_radio_58 ?_
      refine lv_iconst (v := 0) hx hb dX7_radio_61 (by decide) ?_
      refine lv_dup2_11 hx hb dX7_radio_62 rfl rfl ?_
      refine aldf (n := 695) (j := 0) (v := (nI j43)) B hP (show hk 1078 = 8 by decide +kernel) (show hlen 1078 = 695 by decide +kernel) rfl (by omega) (by decide) (by rw [e54]; exact up_get_ne (Or.inr (by omega)) ((congrFun hrow50 _).trans ej43)) dX7_radio_63 ?_
      refine lv_iconst (v := 1) hx hb dX7_radio_64 (by decide) ?_
      refine lv_iadd hx hb dX7_radio_65 ?_
      refine lv_topi (fun z55 ez55 => ?_)
      obtain rfl : z55 = (nI (1 + j43)) := ez55.trans (by rw [show (nI j43) = nI j43 from rfl, show 1 = nI 1 from rfl, nI_add] <;> exact congrArg nI (by omega))
      refine astn (n := 695) (j := 0) B hP hS (show hk 1078 = 8 by decide +kernel) (show hlen 1078 = 695 by decide +kernel) rfl (by omega) (by decide) dX7_radio_66 (fun H locs hP hS => ?_)
      obtain ⟨ρ56, e57⟩ : ∃ z, z = up ρ53 1078 0 (nI (1 + j43)) := ⟨_, rfl⟩
      rw [← e57] at hP
      have hI : RI ρ48 99998 M L X0 ρ56 := by rw [e57]; exact RI_up hI (ok_nradio (iR_w (a := 1) (b := 6) (nI_iR (j := (1 + j43)) (a := 1) (b := 6) (by omega) (by omega) (by omega)) (by decide) (by decide)) rfl)
      refine lv_aload_n hx hb dX7_radio_67 rfl (lv_at hl 1 rfl) ?_
      refine lv_iload_n hx hb dX7_radio_68 rfl (lv_at hl 0 rfl) ?_
      refine call_i (cVt (k := 1076) (av := [.int (nI j43)]) (rest := []) B hP hS (d_X7_tell l E ρ56 (nI j43)) lk_RX7_68 (hrecv (ci := 7) B hP (hk_lt (c := 7) (show hk 1076 = 7 by decide +kernel) (by decide)) (hcc7 _ _ (show hk 1076 = 7 by decide +kernel)) rfl) rfl rfl hl.1 (Nat.le_of_ble_eq_true rfl) ⟨Nat.le_of_ble_eq_true rfl, Nat.le_of_ble_eq_true rfl⟩ ⟨Nat.le_of_ble_eq_true rfl, Nat.le_of_ble_eq_true rfl⟩ dX7_radio_69) hS (fun r58 ρ59 H locs q60 hP hS => ?_)
      have hI : RI ρ48 99998 M L X0 ρ59 := by rw [q60]; exact RI_76 hI (by decide)
      exact ret_i B hr hlk hP hS dX7_radio_72 (PJ_RI hQ hI)
    · skip
      have n61 := (nI_eq (a := j43) (b := 6) (by omega) (by omega)).mp (show (nI j43 = nI 6) from c45)
      refine lv_aload_n hx hb dX7_radio_36 rfl (lv_at hl 1 rfl) ?_
      refine lv_bipush (v := (-5)) hx hb dX7_radio_37 (by decide) ?_
      refine call_i (cVt (k := 1076) (av := [.int (-5)]) (rest := []) B hP hS (d_X7_refuse5 l E ρ35) lk_RX7_64 (hrecv (ci := 7) B hP (hk_lt (c := 7) (show hk 1076 = 7 by decide +kernel) (by decide)) (hcc7 _ _ (show hk 1076 = 7 by decide +kernel)) rfl) rfl rfl hl.1 (Nat.le_of_ble_eq_true rfl) ⟨Nat.le_of_ble_eq_true rfl, Nat.le_of_ble_eq_true rfl⟩ ⟨Nat.le_of_ble_eq_true rfl, Nat.le_of_ble_eq_true rfl⟩ dX7_radio_39) hS (fun r62 ρ63 H locs q64 hP hS => ?_)
      have hJ2 := (show PJ r M L ρ63 from by rw [q64]; exact PJ_ref (PJ_RI hQ hI))
      have hQ := hJ2.1
      have hI := PJ_I hJ2
      exact ret_i B hr hlk hP hS dX7_radio_42 (PJ_RI hQ hI)
  · skip
    refine lv_if_ne (tgt := 23) hx hb dX7_radio_14 (by decide) (fun c65 => absurd rfl c65) (fun _ => ?_)
    refine lv_aload_n hx hb dX7_radio_17 rfl (lv_at hl 0 rfl) ?_
    refine lv_iconst (v := (-1)) hx hb dX7_radio_18 (by decide) ?_
    refine call_i (cVt (k := 1076) (av := [.int (-1)]) (rest := []) B hP hS (d_X7_refuse1 l E ρ35) lk_RX7_64 (hrecv (ci := 7) B hP (hk_lt (c := 7) (show hk 1076 = 7 by decide +kernel) (by decide)) (hcc7 _ _ (show hk 1076 = 7 by decide +kernel)) rfl) rfl rfl hl.1 (Nat.le_of_ble_eq_true rfl) ⟨Nat.le_of_ble_eq_true rfl, Nat.le_of_ble_eq_true rfl⟩ ⟨Nat.le_of_ble_eq_true rfl, Nat.le_of_ble_eq_true rfl⟩ dX7_radio_19) hS (fun r66 ρ67 H locs q68 hP hS => ?_)
    have hJ2 := (show PJ r M L ρ67 from by rw [q68]; exact PJ_ref (PJ_RI hQ hI))
    have hQ := hJ2.1
    have hI := PJ_I hJ2
    exact ret_i B hr hlk hP hS dX7_radio_22 (PJ_RI hQ hI)

set_option maxHeartbeats 4000000 in
set_option maxRecDepth 100000 in
theorem d_X7_noise (l : Launch) (E : hE) (ρ r : Nat → Nat → Int32) (M : Nat → Int32) (L : Nat → Nat) (hJ : PJ r M L ρ) (a1 : Int32) (a2 : Int32) : Met l yX7_noise (.code yX7_noise cX7_noise 4 (some .int) :: gw_all) (rmk 2 80) (cPre E ρ [.ref (E.2.1 + 1076), .int a1, .int a2]) (cI E (fun v ρ1 => PJ r M L ρ1)) 0 0 (hA E) := by
  refine ent (own := RX7) (by decide) rfl (Nat.le_of_ble_eq_true rfl) ?_
  intro p e s m below meth c ls B hr hlk hl hP hS
  have hx := B.1.1
  have hb := B.1.2.1
  have hown := B.1.2.2.2.1
  have hts := B.1.2.2.2.2
  have hl : lv_has ls 4 [(0, .ref (E.2.1 + 1076)), (1, .int a1), (2, .int a2)] := hl
  have hQ := hJ.1
  have hI := PJ_I hJ
  have b29_0 : ∀ (ls : Array Slot) (ρ : Nat → Nat → Int32) (H : Heap) (locs : List Loc) , lv_has ls 4 [(0, .ref (E.2.1 + 1076))] → WP E ρ H → va_S (hA E) s.heap H locs → PJ r M L ρ → W p l e (rmk 2 80) s m ([.ref (E.2.1 + 1076), .int a1, .int a2] : List Value).toArray below meth c H locs 0 0 (MQ below (cI E (fun v ρ1 => PJ r M L ρ1)) ([.ref (E.2.1 + 1076), .int a1, .int a2] : List Value).toArray s 0 0 (hA E)) (F0 m 29 ls []) := by
    intro ls ρ H locs  hl hP hS hI
    have hQ := hI.1
    have hI := PJ_I hI
    refine lv_aload_n hx hb dX7_noise_29 rfl (lv_at hl 0 rfl) ?_
    refine lv_iconst (v := (-1)) hx hb dX7_noise_30 (by decide) ?_
    refine call_i (cVt (k := 1076) (av := [.int (-1)]) (rest := []) B hP hS (d_X7_refuse1 l E ρ) lk_RX7_64 (hrecv (ci := 7) B hP (hk_lt (c := 7) (show hk 1076 = 7 by decide +kernel) (by decide)) (hcc7 _ _ (show hk 1076 = 7 by decide +kernel)) rfl) rfl rfl hl.1 (Nat.le_of_ble_eq_true rfl) ⟨Nat.le_of_ble_eq_true rfl, Nat.le_of_ble_eq_true rfl⟩ ⟨Nat.le_of_ble_eq_true rfl, Nat.le_of_ble_eq_true rfl⟩ dX7_noise_31) hS (fun r32 ρ33 H locs q34 hP hS => ?_)
    have hJ2 := (show PJ r M L ρ33 from by rw [q34]; exact PJ_ref (PJ_RI hQ hI))
    have hQ := hJ2.1
    have hI := PJ_I hJ2
    exact ret_i B hr hlk hP hS dX7_noise_34 (PJ_RI hQ hI)
  refine lv_aload_n hx hb dX7_noise_0 rfl (lv_at hl 0 rfl) ?_
  refine lv_iconst (v := 0) hx hb dX7_noise_1 (by decide) ?_
  refine put7 B hP hS (show hk 1076 = 7 by decide +kernel) 0 (by decide) mw_1027 rfl rfl rfl (fs7_0 E 1076 _ _) dX7_noise_2 (fun H locs hP hS => ?_)
  obtain ⟨ρ35, e36⟩ : ∃ z, z = up ρ 1076 0 0 := ⟨_, rfl⟩
  rw [← e36] at hP
  have hI : RI ρ 99998 M L X0 ρ35 := by rw [e36]; exact RI_76 hI (by decide)
  refine lv_iload_n hx hb dX7_noise_5 rfl (lv_at hl 1 rfl) ?_
  refine lv_i2l hx hb dX7_noise_6 rfl ?_
  refine lv_lconst (v := 0) hx hb dX7_noise_7 (by decide) ?_
  refine lv_ldc2 (v := 22) hx hb hown (hts _ mw_1186) dX7_noise_8 ?_
  refine call_i (cS (av := [.long a1.toInt64, .long 0, .long 22]) (rest := []) B hP hS (c_in l E ρ35 a1.toInt64 0 22 0 22 (by decide) (by decide)) lk_RX7_71 rfl rfl hl.1 (Nat.le_of_ble_eq_true rfl) ⟨Nat.le_of_ble_eq_true rfl, Nat.le_of_ble_eq_true rfl⟩ ⟨Nat.le_of_ble_eq_true rfl, Nat.le_of_ble_eq_true rfl⟩ dX7_noise_11) hS (fun r37 ρ38 H locs q39 hP hS => ?_)
  obtain ⟨rfl, q39⟩ := q39
  rcases q39 with ⟨rfl, q39⟩ | ⟨rfl, q39⟩
  · skip
    have i40 : iR a1 0 22 := (lR_i _ _ _).mp q39
    refine lv_if_eq (tgt := 29) hx hb dX7_noise_14 (by decide) (fun c41 => absurd c41 (iR_ne (show iR 1 (1) (1) from ⟨by decide, by decide⟩) (show iR 0 (0) (0) from ⟨by decide, by decide⟩) (by decide))) (fun _ => ?_)
    refine lv_iload_n hx hb dX7_noise_17 rfl (lv_at hl 2 rfl) ?_
    refine lv_i2l hx hb dX7_noise_18 rfl ?_
    refine lv_lconst (v := 0) hx hb dX7_noise_19 (by decide) ?_
    refine lv_ldc2 (v := 16) hx hb hown (hts _ mw_1187) dX7_noise_20 ?_
    refine call_i (cS (av := [.long a2.toInt64, .long 0, .long 16]) (rest := []) B hP hS (c_in l E ρ35 a2.toInt64 0 16 0 16 (by decide) (by decide)) lk_RX7_71 rfl rfl hl.1 (Nat.le_of_ble_eq_true rfl) ⟨Nat.le_of_ble_eq_true rfl, Nat.le_of_ble_eq_true rfl⟩ ⟨Nat.le_of_ble_eq_true rfl, Nat.le_of_ble_eq_true rfl⟩ dX7_noise_23) hS (fun r42 ρ43 H locs q44 hP hS => ?_)
    obtain ⟨rfl, q44⟩ := q44
    rcases q44 with ⟨rfl, q44⟩ | ⟨rfl, q44⟩
    · skip
      have i45 : iR a2 0 16 := (lR_i _ _ _).mp q44
      refine lv_if_ne (tgt := 35) hx hb dX7_noise_26 (by decide) (fun _ => ?_) (fun c46 => absurd c46 (iR_ne (show iR 1 (1) (1) from ⟨by decide, by decide⟩) (show iR 0 (0) (0) from ⟨by decide, by decide⟩) (by decide)))
      refine lv_aload_n hx hb dX7_noise_35 rfl (lv_at hl 0 rfl) ?_
      refine lv_iconst (v := 4) hx hb dX7_noise_36 (by decide) ?_
      refine call_v (cVt (k := 1076) (av := [.int 4]) (rest := []) B hP hS (d_X7_remember l E ρ35 r M L (PJ_RI hQ hI) ρ35 rfl 4) lk_RX7_118 (hrecv (ci := 7) B hP (hk_lt (c := 7) (show hk 1076 = 7 by decide +kernel) (by decide)) (hcc7 _ _ (show hk 1076 = 7 by decide +kernel)) rfl) rfl rfl hl.1 (Nat.le_of_ble_eq_true rfl) ⟨Nat.le_of_ble_eq_true rfl, Nat.le_of_ble_eq_true rfl⟩ ⟨Nat.le_of_ble_eq_true rfl, Nat.le_of_ble_eq_true rfl⟩ dX7_noise_37) hS (fun ρ48 H locs q49 hP hS => ?_)
      obtain ⟨hJ2, hrow50⟩ := q49
      have hJ2 := hJ2
      have hQ := hJ2.1
      have hI := PJ_I hJ2
      refine lv_aload_n hx hb dX7_noise_40 rfl (lv_at hl 0 rfl) ?_
      refine get7 B hP (show hk 1076 = 7 by decide +kernel) 3 (by decide) mw_1030 rfl dX7_noise_41 ?_
      refine lv_bipush (v := 19) hx hb dX7_noise_44 (by decide) ?_
      refine lv_iload_n hx hb dX7_noise_46 rfl (lv_at hl 1 rfl) ?_
      have := nn_r (x := a1) (a := 0) (b := 22) i40 (by decide)
      refine lv_topi (fun z51 ez51 => ?_)
      obtain rfl : z51 = nI (nn a1) := ez51.trans (nn_eq a1)
      refine lv_iadd hx hb dX7_noise_47 ?_
      refine lv_topi (fun z52 ez52 => ?_)
      obtain rfl : z52 = (nI (19 + (nn a1))) := ez52.trans (by rw [show 19 = nI 19 from rfl, show (nI (nn a1)) = nI (nn a1) from rfl, nI_add] <;> exact congrArg nI (by omega))
      refine aldn (n := 695) (j := (19 + (nn a1))) B hP (show hk 1078 = 8 by decide +kernel) (show hlen 1078 = 695 by decide +kernel) rfl (by omega) (by decide) dX7_noise_48 ?_
      refine lv_istore_n (lv' := [(3, .int (ρ48 1078 (19 + (nn a1)))), (0, .ref (E.2.1 + 1076)), (1, .int a1), (2, .int a2)]) hx hb dX7_noise_49 rfl hl (by decide) rfl (fun ls hl => ?_)
      refine lv_aload_n hx hb dX7_noise_50 rfl (lv_at hl 1 rfl) ?_
      refine get7 B hP (show hk 1076 = 7 by decide +kernel) 3 (by decide) mw_1030 rfl dX7_noise_51 ?_
      refine lv_bipush (v := 19) hx hb dX7_noise_54 (by decide) ?_
      refine lv_iload_n hx hb dX7_noise_56 rfl (lv_at hl 2 rfl) ?_
      refine lv_topi (fun z53 ez53 => ?_)
      obtain rfl : z53 = nI (nn a1) := ez53.trans (nn_eq a1)
      refine lv_iadd hx hb dX7_noise_57 ?_
      refine lv_topi (fun z54 ez54 => ?_)
      obtain rfl : z54 = (nI (19 + (nn a1))) := ez54.trans (by rw [show 19 = nI 19 from rfl, show (nI (nn a1)) = nI (nn a1) from rfl, nI_add] <;> exact congrArg nI (by omega))
      refine lv_iload_n hx hb dX7_noise_58 rfl (lv_at hl 3 rfl) ?_
      have := nn_r (x := a2) (a := 0) (b := 16) i45 (by decide)
      refine lv_topi (fun z55 ez55 => ?_)
      obtain rfl : z55 = nI (nn a2) := ez55.trans (nn_eq a2)
      refine astn (n := 695) (j := (19 + (nn a1))) B hP hS (show hk 1078 = 8 by decide +kernel) (show hlen 1078 = 695 by decide +kernel) rfl (by omega) (by decide) dX7_noise_59 (fun H locs hP hS => ?_)
      obtain ⟨ρ56, e57⟩ : ∃ z, z = up ρ48 1078 (19 + (nn a1)) (nI (nn a2)) := ⟨_, rfl⟩
      rw [← e57] at hP
      have hI : RI ρ48 99998 M L X0 ρ56 := by rw [e57]; exact RI_up hI (ok_head (by omega) (by omega) (by omega))
      refine lv_aload_n hx hb dX7_noise_60 rfl (lv_at hl 1 rfl) ?_
      refine lv_iload_n hx hb dX7_noise_61 rfl (lv_at hl 0 rfl) ?_
      refine call_i (cVt (k := 1076) (av := [.int (ρ48 1078 (19 + (nn a1)))]) (rest := []) B hP hS (d_X7_tell l E ρ56 (ρ48 1078 (19 + (nn a1)))) lk_RX7_68 (hrecv (ci := 7) B hP (hk_lt (c := 7) (show hk 1076 = 7 by decide +kernel) (by decide)) (hcc7 _ _ (show hk 1076 = 7 by decide +kernel)) rfl) rfl rfl hl.1 (Nat.le_of_ble_eq_true rfl) ⟨Nat.le_of_ble_eq_true rfl, Nat.le_of_ble_eq_true rfl⟩ ⟨Nat.le_of_ble_eq_true rfl, Nat.le_of_ble_eq_true rfl⟩ dX7_noise_62) hS (fun r58 ρ59 H locs q60 hP hS => ?_)
      have hI : RI ρ48 99998 M L X0 ρ59 := by rw [q60]; exact RI_76 hI (by decide)
      exact ret_i B hr hlk hP hS dX7_noise_65 (PJ_RI hQ hI)
    · skip
      refine lv_if_ne (tgt := 35) hx hb dX7_noise_26 (by decide) (fun c61 => absurd rfl c61) (fun _ => ?_)
      exact b29_0 ls ρ35 _ _  (lv_sub hl [0] rfl) hP hS (PJ_RI hQ hI) 
  · skip
    refine lv_if_eq (tgt := 29) hx hb dX7_noise_14 (by decide) (fun _ => ?_) (fun c62 => absurd rfl c62)
    exact b29_0 ls ρ35 _ _  (lv_sub hl [0] rfl) hP hS (PJ_RI hQ hI) 

theorem lk_RX7_138 : LkS RX7 138 yX7_isShare cX7_isShare 1 (some .boolean) 1 := ⟨⟨mw_1194, mw_1195, mw_59, mw_1196⟩, by decide +kernel⟩
set_option maxHeartbeats 4000000 in
set_option maxRecDepth 100000 in
theorem d_X7_terms (l : Launch) (E : hE) (ρ r : Nat → Nat → Int32) (M : Nat → Int32) (L : Nat → Nat) (hJ : PJ r M L ρ) (a1 : Int32) (a2 : Int32) : Met l yX7_terms (.code yX7_terms cX7_terms 4 (some .int) :: gw_all) (rmk 2 80) (cPre E ρ [.ref (E.2.1 + 1076), .int a1, .int a2]) (cI E (fun v ρ1 => PJ r M L ρ1)) 0 0 (hA E) := by
  refine ent (own := RX7) (by decide) rfl (Nat.le_of_ble_eq_true rfl) ?_
  intro p e s m below meth c ls B hr hlk hl hP hS
  have hx := B.1.1
  have hb := B.1.2.1
  have hown := B.1.2.2.2.1
  have hts := B.1.2.2.2.2
  have hl : lv_has ls 4 [(0, .ref (E.2.1 + 1076)), (1, .int a1), (2, .int a2)] := hl
  have hQ := hJ.1
  have hI := PJ_I hJ
  have b69_0 : ∀ (ls : Array Slot) (ρ : Nat → Nat → Int32) (H : Heap) (locs : List Loc) , lv_has ls 4 [(0, .ref (E.2.1 + 1076)), (1, .int a1), (2, .int a2)] → WP E ρ H → va_S (hA E) s.heap H locs → PJ r M L ρ → iR a1 (0) (2) → 0 ≤ (nn a1) → (nn a1) ≤ 2 → W p l e (rmk 2 80) s m ([.ref (E.2.1 + 1076), .int a1, .int a2] : List Value).toArray below meth c H locs 0 0 (MQ below (cI E (fun v ρ1 => PJ r M L ρ1)) ([.ref (E.2.1 + 1076), .int a1, .int a2] : List Value).toArray s 0 0 (hA E)) (F0 m 69 ls []) := by
    intro ls ρ H locs  hl hP hS hI fa1 tl_nn_a1_ tu_nn_a1_
    have hQ := hI.1
    have hI := PJ_I hI
    refine lv_aload_n hx hb dX7_terms_69 rfl (lv_at hl 0 rfl) ?_
    refine lv_iconst (v := 5) hx hb dX7_terms_70 (by decide) ?_
    refine call_v (cVt (k := 1076) (av := [.int 5]) (rest := []) B hP hS (d_X7_remember l E ρ r M L (PJ_RI hQ hI) ρ rfl 5) lk_RX7_118 (hrecv (ci := 7) B hP (hk_lt (c := 7) (show hk 1076 = 7 by decide +kernel) (by decide)) (hcc7 _ _ (show hk 1076 = 7 by decide +kernel)) rfl) rfl rfl hl.1 (Nat.le_of_ble_eq_true rfl) ⟨Nat.le_of_ble_eq_true rfl, Nat.le_of_ble_eq_true rfl⟩ ⟨Nat.le_of_ble_eq_true rfl, Nat.le_of_ble_eq_true rfl⟩ dX7_terms_71) hS (fun ρ54 H locs q55 hP hS => ?_)
    obtain ⟨hJ2, hrow56⟩ := q55
    have hJ2 := hJ2
    have hQ := hJ2.1
    have hI := PJ_I hJ2
    refine lv_aload_n hx hb dX7_terms_74 rfl (lv_at hl 0 rfl) ?_
    refine get7 B hP (show hk 1076 = 7 by decide +kernel) 3 (by decide) mw_1030 rfl dX7_terms_75 ?_
    refine lv_bipush (v := 8) hx hb dX7_terms_78 (by decide) ?_
    refine lv_iload_n hx hb dX7_terms_80 rfl (lv_at hl 1 rfl) ?_
    have := nn_r (x := a1) (a := 0) (b := 2) fa1 (by decide)
    refine lv_topi (fun z57 ez57 => ?_)
    obtain rfl : z57 = nI (nn a1) := ez57.trans (nn_eq a1)
    refine lv_iadd hx hb dX7_terms_81 ?_
    refine lv_topi (fun z58 ez58 => ?_)
    obtain rfl : z58 = (nI (8 + (nn a1))) := ez58.trans (by rw [show 8 = nI 8 from rfl, show (nI (nn a1)) = nI (nn a1) from rfl, nI_add] <;> exact congrArg nI (by omega))
    refine aldn (n := 695) (j := (8 + (nn a1))) B hP (show hk 1078 = 8 by decide +kernel) (show hlen 1078 = 695 by decide +kernel) rfl (by omega) (by decide) dX7_terms_82 ?_
    refine lv_istore_n (lv' := [(3, .int (ρ54 1078 (8 + (nn a1)))), (0, .ref (E.2.1 + 1076)), (1, .int a1), (2, .int a2)]) hx hb dX7_terms_83 rfl hl (by decide) rfl (fun ls hl => ?_)
    refine lv_aload_n hx hb dX7_terms_84 rfl (lv_at hl 1 rfl) ?_
    refine get7 B hP (show hk 1076 = 7 by decide +kernel) 3 (by decide) mw_1030 rfl dX7_terms_85 ?_
    refine lv_bipush (v := 8) hx hb dX7_terms_88 (by decide) ?_
    refine lv_iload_n hx hb dX7_terms_90 rfl (lv_at hl 2 rfl) ?_
    refine lv_topi (fun z59 ez59 => ?_)
    obtain rfl : z59 = nI (nn a1) := ez59.trans (nn_eq a1)
    refine lv_iadd hx hb dX7_terms_91 ?_
    refine lv_topi (fun z60 ez60 => ?_)
    obtain rfl : z60 = (nI (8 + (nn a1))) := ez60.trans (by rw [show 8 = nI 8 from rfl, show (nI (nn a1)) = nI (nn a1) from rfl, nI_add] <;> exact congrArg nI (by omega))
    refine lv_iload_n hx hb dX7_terms_92 rfl (lv_at hl 3 rfl) ?_
    refine astn (n := 695) (j := (8 + (nn a1))) B hP hS (show hk 1078 = 8 by decide +kernel) (show hlen 1078 = 695 by decide +kernel) rfl (by omega) (by decide) dX7_terms_93 (fun H locs hP hS => ?_)
    obtain ⟨ρ61, e62⟩ : ∃ z, z = up ρ54 1078 (8 + (nn a1)) a2 := ⟨_, rfl⟩
    rw [← e62] at hP
    have hI : RI ρ54 99998 M L X0 ρ61 := by rw [e62]; exact RI_up hI (ok_head (by omega) (by omega) (by omega))
    refine lv_aload_n hx hb dX7_terms_94 rfl (lv_at hl 1 rfl) ?_
    refine lv_iload_n hx hb dX7_terms_95 rfl (lv_at hl 0 rfl) ?_
    refine call_i (cVt (k := 1076) (av := [.int (ρ54 1078 (8 + (nn a1)))]) (rest := []) B hP hS (d_X7_tell l E ρ61 (ρ54 1078 (8 + (nn a1)))) lk_RX7_68 (hrecv (ci := 7) B hP (hk_lt (c := 7) (show hk 1076 = 7 by decide +kernel) (by decide)) (hcc7 _ _ (show hk 1076 = 7 by decide +kernel)) rfl) rfl rfl hl.1 (Nat.le_of_ble_eq_true rfl) ⟨Nat.le_of_ble_eq_true rfl, Nat.le_of_ble_eq_true rfl⟩ ⟨Nat.le_of_ble_eq_true rfl, Nat.le_of_ble_eq_true rfl⟩ dX7_terms_96) hS (fun r63 ρ64 H locs q65 hP hS => ?_)
    have hI : RI ρ54 99998 M L X0 ρ64 := by rw [q65]; exact RI_76 hI (by decide)
    exact ret_i B hr hlk hP hS dX7_terms_99 (PJ_RI hQ hI)
  have b63_0 : ∀ (ls : Array Slot) (ρ : Nat → Nat → Int32) (H : Heap) (locs : List Loc) , lv_has ls 4 [(0, .ref (E.2.1 + 1076))] → WP E ρ H → va_S (hA E) s.heap H locs → PJ r M L ρ → W p l e (rmk 2 80) s m ([.ref (E.2.1 + 1076), .int a1, .int a2] : List Value).toArray below meth c H locs 0 0 (MQ below (cI E (fun v ρ1 => PJ r M L ρ1)) ([.ref (E.2.1 + 1076), .int a1, .int a2] : List Value).toArray s 0 0 (hA E)) (F0 m 63 ls []) := by
    intro ls ρ H locs  hl hP hS hI
    have hQ := hI.1
    have hI := PJ_I hI
    refine lv_aload_n hx hb dX7_terms_63 rfl (lv_at hl 0 rfl) ?_
    refine lv_iconst (v := (-1)) hx hb dX7_terms_64 (by decide) ?_
    refine call_i (cVt (k := 1076) (av := [.int (-1)]) (rest := []) B hP hS (d_X7_refuse1 l E ρ) lk_RX7_64 (hrecv (ci := 7) B hP (hk_lt (c := 7) (show hk 1076 = 7 by decide +kernel) (by decide)) (hcc7 _ _ (show hk 1076 = 7 by decide +kernel)) rfl) rfl rfl hl.1 (Nat.le_of_ble_eq_true rfl) ⟨Nat.le_of_ble_eq_true rfl, Nat.le_of_ble_eq_true rfl⟩ ⟨Nat.le_of_ble_eq_true rfl, Nat.le_of_ble_eq_true rfl⟩ dX7_terms_65) hS (fun r66 ρ67 H locs q68 hP hS => ?_)
    have hJ2 := (show PJ r M L ρ67 from by rw [q68]; exact PJ_ref (PJ_RI hQ hI))
    have hQ := hJ2.1
    have hI := PJ_I hJ2
    exact ret_i B hr hlk hP hS dX7_terms_68 (PJ_RI hQ hI)
  refine lv_aload_n hx hb dX7_terms_0 rfl (lv_at hl 0 rfl) ?_
  refine lv_iconst (v := 0) hx hb dX7_terms_1 (by decide) ?_
  refine put7 B hP hS (show hk 1076 = 7 by decide +kernel) 0 (by decide) mw_1027 rfl rfl rfl (fs7_0 E 1076 _ _) dX7_terms_2 (fun H locs hP hS => ?_)
  obtain ⟨ρ69, e70⟩ : ∃ z, z = up ρ 1076 0 0 := ⟨_, rfl⟩
  rw [← e70] at hP
  have hI : RI ρ 99998 M L X0 ρ69 := by rw [e70]; exact RI_76 hI (by decide)
  refine lv_iload_n hx hb dX7_terms_5 rfl (lv_at hl 1 rfl) ?_
  refine lv_i2l hx hb dX7_terms_6 rfl ?_
  refine lv_lconst (v := 0) hx hb dX7_terms_7 (by decide) ?_
  refine lv_ldc2 (v := 2) hx hb hown (hts _ mw_1192) dX7_terms_8 ?_
  refine call_i (cS (av := [.long a1.toInt64, .long 0, .long 2]) (rest := []) B hP hS (c_in l E ρ69 a1.toInt64 0 2 0 2 (by decide) (by decide)) lk_RX7_71 rfl rfl hl.1 (Nat.le_of_ble_eq_true rfl) ⟨Nat.le_of_ble_eq_true rfl, Nat.le_of_ble_eq_true rfl⟩ ⟨Nat.le_of_ble_eq_true rfl, Nat.le_of_ble_eq_true rfl⟩ dX7_terms_11) hS (fun r71 ρ72 H locs q73 hP hS => ?_)
  obtain ⟨rfl, q73⟩ := q73
  rcases q73 with ⟨rfl, q73⟩ | ⟨rfl, q73⟩
  · skip
    have i74 : iR a1 0 2 := (lR_i _ _ _).mp q73
    refine lv_if_eq (tgt := 63) hx hb dX7_terms_14 (by decide) (fun c75 => absurd c75 (iR_ne (show iR 1 (1) (1) from ⟨by decide, by decide⟩) (show iR 0 (0) (0) from ⟨by decide, by decide⟩) (by decide))) (fun _ => ?_)
    refine lv_iload_n hx hb dX7_terms_17 rfl (lv_at hl 1 rfl) ?_
    have := nn_r (x := a1) (a := 0) (b := 2) i74 (by decide)
    refine lv_topi (fun z76 ez76 => ?_)
    obtain rfl : z76 = nI (nn a1) := ez76.trans (nn_eq a1)
    refine lv_if_ne (tgt := 36) hx hb dX7_terms_18 (by decide) (fun c77 => ?_) (fun c77 => ?_)
    · skip
      have n78 := mt (nI_eq (a := (nn a1)) (b := 0) (by omega) (by omega)).mpr (show ¬ (nI (nn a1) = nI 0) from c77)
      refine lv_iload_n hx hb dX7_terms_36 rfl (lv_at hl 1 rfl) ?_
      refine lv_topi (fun z79 ez79 => ?_)
      obtain rfl : z79 = nI (nn a1) := ez79.trans (nn_eq a1)
      refine lv_iconst (v := 1) hx hb dX7_terms_37 (by decide) ?_
      refine lv_icmp_ne (tgt := 51) hx hb dX7_terms_38 (by decide) (fun c80 => ?_) (fun c80 => ?_)
      · skip
        have n81 := mt (nI_eq (a := (nn a1)) (b := 1) (by omega) (by omega)).mpr (show ¬ (nI (nn a1) = nI 1) from c80)
        refine lv_iload_n hx hb dX7_terms_51 rfl (lv_at hl 2 rfl) ?_
        refine lv_i2l hx hb dX7_terms_52 rfl ?_
        refine lv_lconst (v := 1) hx hb dX7_terms_53 (by decide) ?_
        refine lv_ldc2 (v := 4) hx hb hown (hts _ mw_1198) dX7_terms_54 ?_
        refine call_i (cS (av := [.long a2.toInt64, .long 1, .long 4]) (rest := []) B hP hS (c_in l E ρ69 a2.toInt64 1 4 1 4 (by decide) (by decide)) lk_RX7_71 rfl rfl hl.1 (Nat.le_of_ble_eq_true rfl) ⟨Nat.le_of_ble_eq_true rfl, Nat.le_of_ble_eq_true rfl⟩ ⟨Nat.le_of_ble_eq_true rfl, Nat.le_of_ble_eq_true rfl⟩ dX7_terms_57) hS (fun r82 ρ83 H locs q84 hP hS => ?_)
        obtain ⟨rfl, q84⟩ := q84
        rcases q84 with ⟨rfl, q84⟩ | ⟨rfl, q84⟩
        · skip
          have i85 : iR a2 1 4 := (lR_i _ _ _).mp q84
          refine lv_if_ne (tgt := 69) hx hb dX7_terms_60 (by decide) (fun _ => ?_) (fun c86 => absurd c86 (iR_ne (show iR 1 (1) (1) from ⟨by decide, by decide⟩) (show iR 0 (0) (0) from ⟨by decide, by decide⟩) (by decide)))
          exact b69_0 ls ρ69 _ _  (lv_sub hl [0, 1, 2] rfl) hP hS (PJ_RI hQ hI) (iR_w i74 (by decide) (by decide)) (by omega) (by omega)
        · skip
          refine lv_if_ne (tgt := 69) hx hb dX7_terms_60 (by decide) (fun c87 => absurd rfl c87) (fun _ => ?_)
          exact b63_0 ls ρ69 _ _  (lv_sub hl [0] rfl) hP hS (PJ_RI hQ hI) 
      · skip
        have n88 := (nI_eq (a := (nn a1)) (b := 1) (by omega) (by omega)).mp (show (nI (nn a1) = nI 1) from c80)
        refine lv_iload_n hx hb dX7_terms_41 rfl (lv_at hl 2 rfl) ?_
        refine call_i (cS (av := [.int a2]) (rest := []) B hP hS (d_X7_isShare l E ρ69 ρ 99998 (by decide) M L X0 a2 hI) lk_RX7_138 rfl rfl hl.1 (Nat.le_of_ble_eq_true rfl) ⟨Nat.le_of_ble_eq_true rfl, Nat.le_of_ble_eq_true rfl⟩ ⟨Nat.le_of_ble_eq_true rfl, Nat.le_of_ble_eq_true rfl⟩ dX7_terms_42) hS (fun r89 ρ90 H locs q91 hP hS => ?_)
        obtain ⟨rfl, hI, q91⟩ := q91
        obtain ⟨j92, lj92, uj92, ej92⟩ := iR_nat (a := 0) (b := 1) q91
        refine lv_topi (fun z93 ez93 => ?_)
        obtain rfl : z93 = nI j92 := ez93.trans ej92
        refine lv_if_ne (tgt := 69) hx hb dX7_terms_45 (by decide) (fun c94 => ?_) (fun c94 => ?_)
        · skip
          have n95 := mt (nI_eq (a := j92) (b := 0) (by omega) (by omega)).mpr (show ¬ (nI j92 = nI 0) from c94)
          exact b69_0 ls ρ69 _ _  (lv_sub hl [0, 1, 2] rfl) hP hS (PJ_RI hQ hI) (iR_w i74 (by decide) (by decide)) (by omega) (by omega)
        · skip
          have n96 := (nI_eq (a := j92) (b := 0) (by omega) (by omega)).mp (show (nI j92 = nI 0) from c94)
          refine lv_goto (tgt := 63) hx hb dX7_terms_48 (by decide) ?_
          exact b63_0 ls ρ69 _ _  (lv_sub hl [0] rfl) hP hS (PJ_RI hQ hI) 
    · skip
      have n97 := (nI_eq (a := (nn a1)) (b := 0) (by omega) (by omega)).mp (show (nI (nn a1) = nI 0) from c77)
      refine lv_iload_n hx hb dX7_terms_21 rfl (lv_at hl 2 rfl) ?_
      refine lv_i2l hx hb dX7_terms_22 rfl ?_
      refine lv_lconst (v := 0) hx hb dX7_terms_23 (by decide) ?_
      refine lv_ldc2 (v := 1000000) hx hb hown (hts _ mw_1193) dX7_terms_24 ?_
      refine call_i (cS (av := [.long a2.toInt64, .long 0, .long 1000000]) (rest := []) B hP hS (c_in l E ρ69 a2.toInt64 0 1000000 0 1000000 (by decide) (by decide)) lk_RX7_71 rfl rfl hl.1 (Nat.le_of_ble_eq_true rfl) ⟨Nat.le_of_ble_eq_true rfl, Nat.le_of_ble_eq_true rfl⟩ ⟨Nat.le_of_ble_eq_true rfl, Nat.le_of_ble_eq_true rfl⟩ dX7_terms_27) hS (fun r98 ρ99 H locs q100 hP hS => ?_)
      obtain ⟨rfl, q100⟩ := q100
      rcases q100 with ⟨rfl, q100⟩ | ⟨rfl, q100⟩
      · skip
        have i101 : iR a2 0 1000000 := (lR_i _ _ _).mp q100
        refine lv_if_ne (tgt := 69) hx hb dX7_terms_30 (by decide) (fun _ => ?_) (fun c102 => absurd c102 (iR_ne (show iR 1 (1) (1) from ⟨by decide, by decide⟩) (show iR 0 (0) (0) from ⟨by decide, by decide⟩) (by decide)))
        exact b69_0 ls ρ69 _ _  (lv_sub hl [0, 1, 2] rfl) hP hS (PJ_RI hQ hI) (iR_w i74 (by decide) (by decide)) (by omega) (by omega)
      · skip
        refine lv_if_ne (tgt := 69) hx hb dX7_terms_30 (by decide) (fun c103 => absurd rfl c103) (fun _ => ?_)
        refine lv_goto (tgt := 63) hx hb dX7_terms_33 (by decide) ?_
        exact b63_0 ls ρ69 _ _  (lv_sub hl [0] rfl) hP hS (PJ_RI hQ hI) 
  · skip
    refine lv_if_eq (tgt := 63) hx hb dX7_terms_14 (by decide) (fun _ => ?_) (fun c104 => absurd rfl c104)
    exact b63_0 ls ρ69 _ _  (lv_sub hl [0] rfl) hP hS (PJ_RI hQ hI) 

set_option maxHeartbeats 4000000 in
set_option maxRecDepth 100000 in
theorem d_X7_put (l : Launch) (E : hE) (ρ r : Nat → Nat → Int32) (M : Nat → Int32) (L : Nat → Nat) (hJ : PJ r M L ρ) (a1 : Int32) (a2 : Int32) (a3 : Int32) (a4 : Int32) : Met l yX7_put (.code yX7_put cX7_put 7 (some .int) :: gw_all) (rmk 4 160) (cPre E ρ [.ref (E.2.1 + 1076), .int a1, .int a2, .int a3, .int a4]) (cI E (fun v ρ1 => PJ r M L ρ1)) 0 0 (hA E) := by
  refine ent (own := RX7) (by decide) rfl (Nat.le_of_ble_eq_true rfl) ?_
  intro p e s m below meth c ls B hr hlk hl hP hS
  have hx := B.1.1
  have hb := B.1.2.1
  have hown := B.1.2.2.2.1
  have hts := B.1.2.2.2.2
  have hl : lv_has ls 7 [(0, .ref (E.2.1 + 1076)), (1, .int a1), (2, .int a2), (3, .int a3), (4, .int a4)] := hl
  have hQ := hJ.1
  have hI := PJ_I hJ
  refine lv_aload_n hx hb dX7_put_0 rfl (lv_at hl 0 rfl) ?_
  refine lv_iconst (v := 0) hx hb dX7_put_1 (by decide) ?_
  refine put7 B hP hS (show hk 1076 = 7 by decide +kernel) 0 (by decide) mw_1027 rfl rfl rfl (fs7_0 E 1076 _ _) dX7_put_2 (fun H locs hP hS => ?_)
  obtain ⟨ρ110, e111⟩ : ∃ z, z = up ρ 1076 0 0 := ⟨_, rfl⟩
  rw [← e111] at hP
  have hI : RI ρ 99998 M L X0 ρ110 := by rw [e111]; exact RI_76 hI (by decide)
  refine lv_iload_n hx hb dX7_put_5 rfl (lv_at hl 3 rfl) ?_
  refine lv_i2l hx hb dX7_put_6 rfl ?_
  refine lv_lconst (v := 0) hx hb dX7_put_7 (by decide) ?_
  refine lv_lconst (v := 1) hx hb dX7_put_8 (by decide) ?_
  refine call_i (cS (av := [.long a3.toInt64, .long 0, .long 1]) (rest := []) B hP hS (c_in l E ρ110 a3.toInt64 0 1 0 1 (by decide) (by decide)) lk_RX7_71 rfl rfl hl.1 (Nat.le_of_ble_eq_true rfl) ⟨Nat.le_of_ble_eq_true rfl, Nat.le_of_ble_eq_true rfl⟩ ⟨Nat.le_of_ble_eq_true rfl, Nat.le_of_ble_eq_true rfl⟩ dX7_put_9) hS (fun r112 ρ113 H locs q114 hP hS => ?_)
  obtain ⟨rfl, q114⟩ := q114
  rcases q114 with ⟨rfl, q114⟩ | ⟨rfl, q114⟩
  · skip
    have i115 : iR a3 0 1 := (lR_i _ _ _).mp q114
    refine lv_if_eq (tgt := 28) hx hb dX7_put_12 (by decide) (fun c116 => absurd c116 (iR_ne (show iR 1 (1) (1) from ⟨by decide, by decide⟩) (show iR 0 (0) (0) from ⟨by decide, by decide⟩) (by decide))) (fun _ => ?_)
    refine lv_iload hx hb dX7_put_15 (lv_at hl 4 rfl) ?_
    refine lv_i2l hx hb dX7_put_17 rfl ?_
    refine lv_lconst (v := 0) hx hb dX7_put_18 (by decide) ?_
    refine lv_ldc2 (v := 255) hx hb hown (hts _ mw_1203) dX7_put_19 ?_
    refine call_i (cS (av := [.long a4.toInt64, .long 0, .long 255]) (rest := []) B hP hS (c_in l E ρ110 a4.toInt64 0 255 0 255 (by decide) (by decide)) lk_RX7_71 rfl rfl hl.1 (Nat.le_of_ble_eq_true rfl) ⟨Nat.le_of_ble_eq_true rfl, Nat.le_of_ble_eq_true rfl⟩ ⟨Nat.le_of_ble_eq_true rfl, Nat.le_of_ble_eq_true rfl⟩ dX7_put_22) hS (fun r117 ρ118 H locs q119 hP hS => ?_)
    obtain ⟨rfl, q119⟩ := q119
    rcases q119 with ⟨rfl, q119⟩ | ⟨rfl, q119⟩
    · skip
      have i120 : iR a4 0 255 := (lR_i _ _ _).mp q119
      refine lv_if_ne (tgt := 34) hx hb dX7_put_25 (by decide) (fun _ => ?_) (fun c121 => absurd c121 (iR_ne (show iR 1 (1) (1) from ⟨by decide, by decide⟩) (show iR 0 (0) (0) from ⟨by decide, by decide⟩) (by decide)))
      refine lv_aload_n hx hb dX7_put_34 rfl (lv_at hl 0 rfl) ?_
      refine lv_iload_n hx hb dX7_put_35 rfl (lv_at hl 1 rfl) ?_
      refine lv_iload_n hx hb dX7_put_36 rfl (lv_at hl 2 rfl) ?_
      refine call_i (cVt (k := 1076) (av := [.int a1, .int a2]) (rest := []) B hP hS (d_X7_isLink l E ρ110 ρ 99998 (by decide) M L X0 a1 a2 hI) lk_RX7_106 (hrecv (ci := 7) B hP (hk_lt (c := 7) (show hk 1076 = 7 by decide +kernel) (by decide)) (hcc7 _ _ (show hk 1076 = 7 by decide +kernel)) rfl) rfl rfl hl.1 (Nat.le_of_ble_eq_true rfl) ⟨Nat.le_of_ble_eq_true rfl, Nat.le_of_ble_eq_true rfl⟩ ⟨Nat.le_of_ble_eq_true rfl, Nat.le_of_ble_eq_true rfl⟩ dX7_put_37) hS (fun r122 ρ123 H locs q124 hP hS => ?_)
      obtain ⟨rfl, hI, q124⟩ := q124
      rcases q124 with rfl | ⟨rfl, j125, hj125, ej125, i126, j127, hj127, ej127⟩
      · skip
        refine lv_if_ne (tgt := 50) hx hb dX7_put_40 (by decide) (fun c128 => absurd rfl c128) (fun _ => ?_)
        refine lv_aload_n hx hb dX7_put_43 rfl (lv_at hl 0 rfl) ?_
        refine lv_bipush (v := (-2)) hx hb dX7_put_44 (by decide) ?_
        refine call_i (cVt (k := 1076) (av := [.int (-2)]) (rest := []) B hP hS (d_X7_refuse2 l E ρ110) lk_RX7_64 (hrecv (ci := 7) B hP (hk_lt (c := 7) (show hk 1076 = 7 by decide +kernel) (by decide)) (hcc7 _ _ (show hk 1076 = 7 by decide +kernel)) rfl) rfl rfl hl.1 (Nat.le_of_ble_eq_true rfl) ⟨Nat.le_of_ble_eq_true rfl, Nat.le_of_ble_eq_true rfl⟩ ⟨Nat.le_of_ble_eq_true rfl, Nat.le_of_ble_eq_true rfl⟩ dX7_put_46) hS (fun r129 ρ130 H locs q131 hP hS => ?_)
        have hJ2 := (show PJ r M L ρ130 from by rw [q131]; exact PJ_ref (PJ_RI hQ hI))
        have hQ := hJ2.1
        have hI := PJ_I hJ2
        exact ret_i B hr hlk hP hS dX7_put_49 (PJ_RI hQ hI)
      · skip
        have := RI_Lb hI hj125
        have n132 : nn a1 = j125 := nn_u ej125 (by omega)
        have i133 : iR (M (nn a1)) 0 5 := by rw [n132]; exact i126
        have : j127 < L (nn a1) := by rw [n132]; exact hj127
        have := RI_Lb (n := (nn a1)) hI (by omega)
        have n134 : nn a2 = j127 := nn_u ej127 (by omega)
        refine lv_if_ne (tgt := 50) hx hb dX7_put_40 (by decide) (fun _ => ?_) (fun c135 => absurd c135 (iR_ne (show iR 1 (1) (1) from ⟨by decide, by decide⟩) (show iR 0 (0) (0) from ⟨by decide, by decide⟩) (by decide)))
        refine lv_iload_n hx hb dX7_put_50 rfl (lv_at hl 1 rfl) ?_
        refine lv_topi (fun z136 ez136 => ?_)
        obtain rfl : z136 = nI (nn a1) := ez136.trans (nn_eq a1)
        refine lv_iload_n hx hb dX7_put_51 rfl (lv_at hl 2 rfl) ?_
        refine lv_topi (fun z137 ez137 => ?_)
        obtain rfl : z137 = nI (nn a2) := ez137.trans (nn_eq a2)
        refine call_i (cS (av := [.int (nI (nn a1)), .int (nI (nn a2))]) (rest := []) B hP hS (d_X7_linkAt l E ρ110 ρ 99998 (by decide) M L X0 (nn a1) (by omega) (by omega) (nn a2) (by omega) (by omega) hI) lk_RX7_82 rfl rfl hl.1 (Nat.le_of_ble_eq_true rfl) ⟨Nat.le_of_ble_eq_true rfl, Nat.le_of_ble_eq_true rfl⟩ ⟨Nat.le_of_ble_eq_true rfl, Nat.le_of_ble_eq_true rfl⟩ dX7_put_52) hS (fun r138 ρ139 H locs q140 hP hS => ?_)
        obtain ⟨rfl, hI, q140⟩ := q140
        obtain rfl : r138 = nI (104 + 326 * (nn a1) + 66 * (nn a2)) := q140.trans (congrArg nI (by omega))
        refine lv_iload_n hx hb dX7_put_55 rfl (lv_at hl 3 rfl) ?_
        have := nn_r (x := a3) (a := 0) (b := 1) i115 (by decide)
        refine lv_topi (fun z141 ez141 => ?_)
        obtain rfl : z141 = nI (nn a3) := ez141.trans (nn_eq a3)
        refine lv_if_ne (tgt := 63) hx hb dX7_put_56 (by decide) (fun c142 => ?_) (fun c142 => ?_)
        · skip
          have n143 := mt (nI_eq (a := (nn a3)) (b := 0) (by omega) (by omega)).mpr (show ¬ (nI (nn a3) = nI 0) from c142)
          refine lv_bipush (v := 14) hx hb dX7_put_63 (by decide) ?_
          refine lv_iadd hx hb dX7_put_65 ?_
          refine lv_topi (fun z144 ez144 => ?_)
          obtain rfl : z144 = (nI (118 + 326 * (nn a1) + 66 * (nn a2))) := ez144.trans (by rw [show (nI (104 + 326 * (nn a1) + 66 * (nn a2))) = nI (104 + 326 * (nn a1) + 66 * (nn a2)) from rfl, show 14 = nI 14 from rfl, nI_add] <;> exact congrArg nI (by omega))
          refine lv_istore (lv' := [(5, .int (nI (118 + 326 * (nn a1) + 66 * (nn a2)))), (0, .ref (E.2.1 + 1076)), (1, .int a1), (2, .int a2), (3, .int a3), (4, .int a4)]) hx hb dX7_put_66 hl (by decide) rfl (fun ls hl => ?_)
          refine lv_aload_n hx hb dX7_put_68 rfl (lv_at hl 1 rfl) ?_
          refine get7 B hP (show hk 1076 = 7 by decide +kernel) 3 (by decide) mw_1030 rfl dX7_put_69 ?_
          refine lv_iload hx hb dX7_put_72 (lv_at hl 0 rfl) ?_
          refine aldn (n := 695) (j := (118 + 326 * (nn a1) + 66 * (nn a2))) B hP (show hk 1078 = 8 by decide +kernel) (show hlen 1078 = 695 by decide +kernel) rfl (by omega) (by decide) dX7_put_74 ?_
          have i145 : iR (ρ110 1078 (118 + 326 * (nn a1) + 66 * (nn a2))) (0) (8) := g_nup (n0 := (nn a1)) (l0 := (nn a2)) (j := (118 + 326 * (nn a1) + 66 * (nn a2))) hI (by omega) (by omega) (by omega)
          obtain ⟨j146, lj146, uj146, ej146⟩ := iR_nat (a := 0) (b := 8) i145
          refine lv_topi (fun z147 ez147 => ?_)
          obtain rfl : z147 = nI j146 := ez147.trans ej146
          refine lv_istore (lv' := [(6, .int (nI j146)), (5, .int (nI (118 + 326 * (nn a1) + 66 * (nn a2)))), (0, .ref (E.2.1 + 1076)), (1, .int a1), (2, .int a2), (3, .int a3), (4, .int a4)]) hx hb dX7_put_75 hl (by decide) rfl (fun ls hl => ?_)
          refine lv_iload hx hb dX7_put_77 (lv_at hl 0 rfl) ?_
          refine lv_bipush (v := 8) hx hb dX7_put_79 (by decide) ?_
          refine lv_icmp_ne (tgt := 91) hx hb dX7_put_81 (by decide) (fun c148 => ?_) (fun c148 => ?_)
          · skip
            have n149 := mt (nI_eq (a := j146) (b := 8) (by omega) (by omega)).mpr (show ¬ (nI j146 = nI 8) from c148)
            refine lv_aload_n hx hb dX7_put_91 rfl (lv_at hl 2 rfl) ?_
            refine lv_bipush (v := 6) hx hb dX7_put_92 (by decide) ?_
            refine call_v (cVt (k := 1076) (av := [.int 6]) (rest := []) B hP hS (d_X7_remember l E ρ110 r M L (PJ_RI hQ hI) ρ110 rfl 6) lk_RX7_118 (hrecv (ci := 7) B hP (hk_lt (c := 7) (show hk 1076 = 7 by decide +kernel) (by decide)) (hcc7 _ _ (show hk 1076 = 7 by decide +kernel)) rfl) rfl rfl hl.1 (Nat.le_of_ble_eq_true rfl) ⟨Nat.le_of_ble_eq_true rfl, Nat.le_of_ble_eq_true rfl⟩ ⟨Nat.le_of_ble_eq_true rfl, Nat.le_of_ble_eq_true rfl⟩ dX7_put_94) hS (fun ρ151 H locs q152 hP hS => ?_)
            obtain ⟨hJ2, hrow153⟩ := q152
            have hJ2 := hJ2
            have hQ := hJ2.1
            have hI := PJ_I hJ2
            refine lv_aload_n hx hb dX7_put_97 rfl (lv_at hl 2 rfl) ?_
            refine lv_iload hx hb dX7_put_98 (lv_at hl 1 rfl) ?_
            refine lv_iload_n hx hb dX7_put_100 rfl (lv_at hl 3 rfl) ?_
            refine lv_topi (fun z154 ez154 => ?_)
            obtain rfl : z154 = nI (nn a1) := ez154.trans (nn_eq a1)
            refine lv_iload_n hx hb dX7_put_101 rfl (lv_at hl 4 rfl) ?_
            refine lv_topi (fun z155 ez155 => ?_)
            obtain rfl : z155 = nI (nn a2) := ez155.trans (nn_eq a2)
            refine call_i (cS (av := [.int (nI (nn a1)), .int (nI (nn a2))]) (rest := [.int (nI (118 + 326 * (nn a1) + 66 * (nn a2))), .ref (E.2.1 + 1076)]) B hP hS (d_X7_linkAt l E ρ151 ρ151 99998 (by decide) M L X0 (nn a1) (by omega) (by omega) (nn a2) (by omega) (by omega) hI) lk_RX7_82 rfl rfl hl.1 (Nat.le_of_ble_eq_true rfl) ⟨Nat.le_of_ble_eq_true rfl, Nat.le_of_ble_eq_true rfl⟩ ⟨Nat.le_of_ble_eq_true rfl, Nat.le_of_ble_eq_true rfl⟩ dX7_put_102) hS (fun r156 ρ157 H locs q158 hP hS => ?_)
            obtain ⟨rfl, hI, q158⟩ := q158
            obtain rfl : r156 = nI (104 + 326 * (nn a1) + 66 * (nn a2)) := q158.trans (congrArg nI (by omega))
            refine lv_iload_n hx hb dX7_put_105 rfl (lv_at hl 5 rfl) ?_
            refine lv_topi (fun z159 ez159 => ?_)
            obtain rfl : z159 = nI (nn a3) := ez159.trans (nn_eq a3)
            refine lv_if_ne (tgt := 114) hx hb dX7_put_106 (by decide) (fun _ => ?_) (fun c160 => absurd c160 (iR_ne (nI_iR (j := (nn a3)) (a := 1) (b := 1) (by omega) (by omega) (by omega)) (show iR 0 (0) (0) from ⟨by decide, by decide⟩) (by decide)))
            refine lv_bipush (v := 58) hx hb dX7_put_114 (by decide) ?_
            refine lv_iadd hx hb dX7_put_116 ?_
            refine lv_topi (fun z161 ez161 => ?_)
            obtain rfl : z161 = (nI (162 + 326 * (nn a1) + 66 * (nn a2))) := ez161.trans (by rw [show (nI (104 + 326 * (nn a1) + 66 * (nn a2))) = nI (104 + 326 * (nn a1) + 66 * (nn a2)) from rfl, show 58 = nI 58 from rfl, nI_add] <;> exact congrArg nI (by omega))
            refine lv_iload hx hb dX7_put_117 (lv_at hl 6 rfl) ?_
            have := nn_r (x := a4) (a := 0) (b := 255) i120 (by decide)
            refine lv_topi (fun z162 ez162 => ?_)
            obtain rfl : z162 = nI (nn a4) := ez162.trans (nn_eq a4)
            refine lv_aload_n hx hb dX7_put_119 rfl (lv_at hl 2 rfl) ?_
            refine get7 B hP (show hk 1076 = 7 by decide +kernel) 3 (by decide) mw_1030 rfl dX7_put_120 ?_
            refine lv_bipush (v := 7) hx hb dX7_put_123 (by decide) ?_
            refine aldn (n := 695) (j := 7) B hP (show hk 1078 = 8 by decide +kernel) (show hlen 1078 = 695 by decide +kernel) rfl (by omega) (by decide) dX7_put_125 ?_
            have i163 : iR (ρ151 1078 7) (0) (1000000) := (iR_w (g_time hI) (by omega) (by omega))
            obtain ⟨j164, lj164, uj164, ej164⟩ := iR_nat (a := 0) (b := 1000000) i163
            refine lv_topi (fun z165 ez165 => ?_)
            obtain rfl : z165 = nI j164 := ez165.trans ej164
            refine call_v (cVt (k := 1076) (av := [.int (nI (118 + 326 * (nn a1) + 66 * (nn a2))), .int (nI (162 + 326 * (nn a1) + 66 * (nn a2))), .int (nI (nn a4)), .int (nI j164)]) (rest := []) B hP hS (d_X7_comes14 l E ρ151 ρ151 99998 (by decide) M L X0 (nn a1) (by omega) (nn a2) (by omega) (nI (nn a4)) (nI j164) hI (by rw [show 118 + 326 * (nn a1) + 66 * (nn a2) = (118 + 326 * (nn a1) + 66 * (nn a2)) by omega, show ρ151 1078 (118 + 326 * (nn a1) + 66 * (nn a2)) = (nI j146) from ((congrFun hrow153 _).trans ej146)]; exact iR_w (nI_iR (j := j146) (a := 0) (b := 7) (by omega) (by omega) (by omega)) (by decide) (by decide))) lk_RX7_145 (hrecv (ci := 7) B hP (hk_lt (c := 7) (show hk 1076 = 7 by decide +kernel) (by decide)) (hcc7 _ _ (show hk 1076 = 7 by decide +kernel)) rfl) rfl rfl hl.1 (Nat.le_of_ble_eq_true rfl) ⟨Nat.le_of_ble_eq_true rfl, Nat.le_of_ble_eq_true rfl⟩ ⟨Nat.le_of_ble_eq_true rfl, Nat.le_of_ble_eq_true rfl⟩ dX7_put_126) hS (fun ρ167 H locs q168 hP hS => ?_)
            have hI := q168
            refine lv_aload_n hx hb dX7_put_129 rfl (lv_at hl 2 rfl) ?_
            refine lv_iload hx hb dX7_put_130 (lv_at hl 0 rfl) ?_
            refine lv_iconst (v := 1) hx hb dX7_put_132 (by decide) ?_
            refine lv_iadd hx hb dX7_put_133 ?_
            refine lv_topi (fun z169 ez169 => ?_)
            obtain rfl : z169 = (nI (1 + j146)) := ez169.trans (by rw [show (nI j146) = nI j146 from rfl, show 1 = nI 1 from rfl, nI_add] <;> exact congrArg nI (by omega))
            refine call_i (cVt (k := 1076) (av := [.int (nI (1 + j146))]) (rest := []) B hP hS (d_X7_tell l E ρ167 (nI (1 + j146))) lk_RX7_68 (hrecv (ci := 7) B hP (hk_lt (c := 7) (show hk 1076 = 7 by decide +kernel) (by decide)) (hcc7 _ _ (show hk 1076 = 7 by decide +kernel)) rfl) rfl rfl hl.1 (Nat.le_of_ble_eq_true rfl) ⟨Nat.le_of_ble_eq_true rfl, Nat.le_of_ble_eq_true rfl⟩ ⟨Nat.le_of_ble_eq_true rfl, Nat.le_of_ble_eq_true rfl⟩ dX7_put_134) hS (fun r170 ρ171 H locs q172 hP hS => ?_)
            have hI : RI ρ151 99998 M L X0 ρ171 := by rw [q172]; exact RI_76 hI (by decide)
            exact ret_i B hr hlk hP hS dX7_put_137 (PJ_RI hQ hI)
          · skip
            have n173 := (nI_eq (a := j146) (b := 8) (by omega) (by omega)).mp (show (nI j146 = nI 8) from c148)
            refine lv_aload_n hx hb dX7_put_84 rfl (lv_at hl 2 rfl) ?_
            refine lv_bipush (v := (-5)) hx hb dX7_put_85 (by decide) ?_
            refine call_i (cVt (k := 1076) (av := [.int (-5)]) (rest := []) B hP hS (d_X7_refuse5 l E ρ110) lk_RX7_64 (hrecv (ci := 7) B hP (hk_lt (c := 7) (show hk 1076 = 7 by decide +kernel) (by decide)) (hcc7 _ _ (show hk 1076 = 7 by decide +kernel)) rfl) rfl rfl hl.1 (Nat.le_of_ble_eq_true rfl) ⟨Nat.le_of_ble_eq_true rfl, Nat.le_of_ble_eq_true rfl⟩ ⟨Nat.le_of_ble_eq_true rfl, Nat.le_of_ble_eq_true rfl⟩ dX7_put_87) hS (fun r174 ρ175 H locs q176 hP hS => ?_)
            have hJ2 := (show PJ r M L ρ175 from by rw [q176]; exact PJ_ref (PJ_RI hQ hI))
            have hQ := hJ2.1
            have hI := PJ_I hJ2
            exact ret_i B hr hlk hP hS dX7_put_90 (PJ_RI hQ hI)
        · skip
          have n177 := (nI_eq (a := (nn a3)) (b := 0) (by omega) (by omega)).mp (show (nI (nn a3) = nI 0) from c142)
          refine lv_iconst (v := 5) hx hb dX7_put_59 (by decide) ?_
          refine lv_goto (tgt := 65) hx hb dX7_put_60 (by decide) ?_
          refine lv_iadd hx hb dX7_put_65 ?_
          refine lv_topi (fun z178 ez178 => ?_)
          obtain rfl : z178 = (nI (109 + 326 * (nn a1) + 66 * (nn a2))) := ez178.trans (by rw [show (nI (104 + 326 * (nn a1) + 66 * (nn a2))) = nI (104 + 326 * (nn a1) + 66 * (nn a2)) from rfl, show 5 = nI 5 from rfl, nI_add] <;> exact congrArg nI (by omega))
          refine lv_istore (lv' := [(5, .int (nI (109 + 326 * (nn a1) + 66 * (nn a2)))), (0, .ref (E.2.1 + 1076)), (1, .int a1), (2, .int a2), (3, .int a3), (4, .int a4)]) hx hb dX7_put_66 hl (by decide) rfl (fun ls hl => ?_)
          refine lv_aload_n hx hb dX7_put_68 rfl (lv_at hl 1 rfl) ?_
          refine get7 B hP (show hk 1076 = 7 by decide +kernel) 3 (by decide) mw_1030 rfl dX7_put_69 ?_
          refine lv_iload hx hb dX7_put_72 (lv_at hl 0 rfl) ?_
          refine aldn (n := 695) (j := (109 + 326 * (nn a1) + 66 * (nn a2))) B hP (show hk 1078 = 8 by decide +kernel) (show hlen 1078 = 695 by decide +kernel) rfl (by omega) (by decide) dX7_put_74 ?_
          have i179 : iR (ρ110 1078 (109 + 326 * (nn a1) + 66 * (nn a2))) (0) (8) := g_ndown (n0 := (nn a1)) (l0 := (nn a2)) (j := (109 + 326 * (nn a1) + 66 * (nn a2))) hI (by omega) (by omega) (by omega)
          obtain ⟨j180, lj180, uj180, ej180⟩ := iR_nat (a := 0) (b := 8) i179
          refine lv_topi (fun z181 ez181 => ?_)
          obtain rfl : z181 = nI j180 := ez181.trans ej180
          refine lv_istore (lv' := [(6, .int (nI j180)), (5, .int (nI (109 + 326 * (nn a1) + 66 * (nn a2)))), (0, .ref (E.2.1 + 1076)), (1, .int a1), (2, .int a2), (3, .int a3), (4, .int a4)]) hx hb dX7_put_75 hl (by decide) rfl (fun ls hl => ?_)
          refine lv_iload hx hb dX7_put_77 (lv_at hl 0 rfl) ?_
          refine lv_bipush (v := 8) hx hb dX7_put_79 (by decide) ?_
          refine lv_icmp_ne (tgt := 91) hx hb dX7_put_81 (by decide) (fun c182 => ?_) (fun c182 => ?_)
          · skip
            have n183 := mt (nI_eq (a := j180) (b := 8) (by omega) (by omega)).mpr (show ¬ (nI j180 = nI 8) from c182)
            refine lv_aload_n hx hb dX7_put_91 rfl (lv_at hl 2 rfl) ?_
            refine lv_bipush (v := 6) hx hb dX7_put_92 (by decide) ?_
            refine call_v (cVt (k := 1076) (av := [.int 6]) (rest := []) B hP hS (d_X7_remember l E ρ110 r M L (PJ_RI hQ hI) ρ110 rfl 6) lk_RX7_118 (hrecv (ci := 7) B hP (hk_lt (c := 7) (show hk 1076 = 7 by decide +kernel) (by decide)) (hcc7 _ _ (show hk 1076 = 7 by decide +kernel)) rfl) rfl rfl hl.1 (Nat.le_of_ble_eq_true rfl) ⟨Nat.le_of_ble_eq_true rfl, Nat.le_of_ble_eq_true rfl⟩ ⟨Nat.le_of_ble_eq_true rfl, Nat.le_of_ble_eq_true rfl⟩ dX7_put_94) hS (fun ρ185 H locs q186 hP hS => ?_)
            obtain ⟨hJ2, hrow187⟩ := q186
            have hJ2 := hJ2
            have hQ := hJ2.1
            have hI := PJ_I hJ2
            refine lv_aload_n hx hb dX7_put_97 rfl (lv_at hl 2 rfl) ?_
            refine lv_iload hx hb dX7_put_98 (lv_at hl 1 rfl) ?_
            refine lv_iload_n hx hb dX7_put_100 rfl (lv_at hl 3 rfl) ?_
            refine lv_topi (fun z188 ez188 => ?_)
            obtain rfl : z188 = nI (nn a1) := ez188.trans (nn_eq a1)
            refine lv_iload_n hx hb dX7_put_101 rfl (lv_at hl 4 rfl) ?_
            refine lv_topi (fun z189 ez189 => ?_)
            obtain rfl : z189 = nI (nn a2) := ez189.trans (nn_eq a2)
            refine call_i (cS (av := [.int (nI (nn a1)), .int (nI (nn a2))]) (rest := [.int (nI (109 + 326 * (nn a1) + 66 * (nn a2))), .ref (E.2.1 + 1076)]) B hP hS (d_X7_linkAt l E ρ185 ρ185 99998 (by decide) M L X0 (nn a1) (by omega) (by omega) (nn a2) (by omega) (by omega) hI) lk_RX7_82 rfl rfl hl.1 (Nat.le_of_ble_eq_true rfl) ⟨Nat.le_of_ble_eq_true rfl, Nat.le_of_ble_eq_true rfl⟩ ⟨Nat.le_of_ble_eq_true rfl, Nat.le_of_ble_eq_true rfl⟩ dX7_put_102) hS (fun r190 ρ191 H locs q192 hP hS => ?_)
            obtain ⟨rfl, hI, q192⟩ := q192
            obtain rfl : r190 = nI (104 + 326 * (nn a1) + 66 * (nn a2)) := q192.trans (congrArg nI (by omega))
            refine lv_iload_n hx hb dX7_put_105 rfl (lv_at hl 5 rfl) ?_
            refine lv_topi (fun z193 ez193 => ?_)
            obtain rfl : z193 = nI (nn a3) := ez193.trans (nn_eq a3)
            refine lv_if_ne (tgt := 114) hx hb dX7_put_106 (by decide) (fun c194 => absurd (iR_is (nI_iR (j := (nn a3)) (a := 0) (b := 0) (by omega) (by omega) (by omega)) rfl) c194) (fun _ => ?_)
            refine lv_bipush (v := 50) hx hb dX7_put_109 (by decide) ?_
            refine lv_goto (tgt := 116) hx hb dX7_put_111 (by decide) ?_
            refine lv_iadd hx hb dX7_put_116 ?_
            refine lv_topi (fun z195 ez195 => ?_)
            obtain rfl : z195 = (nI (154 + 326 * (nn a1) + 66 * (nn a2))) := ez195.trans (by rw [show (nI (104 + 326 * (nn a1) + 66 * (nn a2))) = nI (104 + 326 * (nn a1) + 66 * (nn a2)) from rfl, show 50 = nI 50 from rfl, nI_add] <;> exact congrArg nI (by omega))
            refine lv_iload hx hb dX7_put_117 (lv_at hl 6 rfl) ?_
            have := nn_r (x := a4) (a := 0) (b := 255) i120 (by decide)
            refine lv_topi (fun z196 ez196 => ?_)
            obtain rfl : z196 = nI (nn a4) := ez196.trans (nn_eq a4)
            refine lv_aload_n hx hb dX7_put_119 rfl (lv_at hl 2 rfl) ?_
            refine get7 B hP (show hk 1076 = 7 by decide +kernel) 3 (by decide) mw_1030 rfl dX7_put_120 ?_
            refine lv_bipush (v := 7) hx hb dX7_put_123 (by decide) ?_
            refine aldn (n := 695) (j := 7) B hP (show hk 1078 = 8 by decide +kernel) (show hlen 1078 = 695 by decide +kernel) rfl (by omega) (by decide) dX7_put_125 ?_
            have i197 : iR (ρ185 1078 7) (0) (1000000) := (iR_w (g_time hI) (by omega) (by omega))
            obtain ⟨j198, lj198, uj198, ej198⟩ := iR_nat (a := 0) (b := 1000000) i197
            refine lv_topi (fun z199 ez199 => ?_)
            obtain rfl : z199 = nI j198 := ez199.trans ej198
            refine call_v (cVt (k := 1076) (av := [.int (nI (109 + 326 * (nn a1) + 66 * (nn a2))), .int (nI (154 + 326 * (nn a1) + 66 * (nn a2))), .int (nI (nn a4)), .int (nI j198)]) (rest := []) B hP hS (d_X7_comes5 l E ρ185 ρ185 99998 (by decide) M L X0 (nn a1) (by omega) (nn a2) (by omega) (nI (nn a4)) (nI j198) hI (by rw [show 109 + 326 * (nn a1) + 66 * (nn a2) = (109 + 326 * (nn a1) + 66 * (nn a2)) by omega, show ρ185 1078 (109 + 326 * (nn a1) + 66 * (nn a2)) = (nI j180) from ((congrFun hrow187 _).trans ej180)]; exact iR_w (nI_iR (j := j180) (a := 0) (b := 7) (by omega) (by omega) (by omega)) (by decide) (by decide))) lk_RX7_145 (hrecv (ci := 7) B hP (hk_lt (c := 7) (show hk 1076 = 7 by decide +kernel) (by decide)) (hcc7 _ _ (show hk 1076 = 7 by decide +kernel)) rfl) rfl rfl hl.1 (Nat.le_of_ble_eq_true rfl) ⟨Nat.le_of_ble_eq_true rfl, Nat.le_of_ble_eq_true rfl⟩ ⟨Nat.le_of_ble_eq_true rfl, Nat.le_of_ble_eq_true rfl⟩ dX7_put_126) hS (fun ρ201 H locs q202 hP hS => ?_)
            have hI := q202
            refine lv_aload_n hx hb dX7_put_129 rfl (lv_at hl 2 rfl) ?_
            refine lv_iload hx hb dX7_put_130 (lv_at hl 0 rfl) ?_
            refine lv_iconst (v := 1) hx hb dX7_put_132 (by decide) ?_
            refine lv_iadd hx hb dX7_put_133 ?_
            refine lv_topi (fun z203 ez203 => ?_)
            obtain rfl : z203 = (nI (1 + j180)) := ez203.trans (by rw [show (nI j180) = nI j180 from rfl, show 1 = nI 1 from rfl, nI_add] <;> exact congrArg nI (by omega))
            refine call_i (cVt (k := 1076) (av := [.int (nI (1 + j180))]) (rest := []) B hP hS (d_X7_tell l E ρ201 (nI (1 + j180))) lk_RX7_68 (hrecv (ci := 7) B hP (hk_lt (c := 7) (show hk 1076 = 7 by decide +kernel) (by decide)) (hcc7 _ _ (show hk 1076 = 7 by decide +kernel)) rfl) rfl rfl hl.1 (Nat.le_of_ble_eq_true rfl) ⟨Nat.le_of_ble_eq_true rfl, Nat.le_of_ble_eq_true rfl⟩ ⟨Nat.le_of_ble_eq_true rfl, Nat.le_of_ble_eq_true rfl⟩ dX7_put_134) hS (fun r204 ρ205 H locs q206 hP hS => ?_)
            have hI : RI ρ185 99998 M L X0 ρ205 := by rw [q206]; exact RI_76 hI (by decide)
            exact ret_i B hr hlk hP hS dX7_put_137 (PJ_RI hQ hI)
          · skip
            have n207 := (nI_eq (a := j180) (b := 8) (by omega) (by omega)).mp (show (nI j180 = nI 8) from c182)
            refine lv_aload_n hx hb dX7_put_84 rfl (lv_at hl 2 rfl) ?_
            refine lv_bipush (v := (-5)) hx hb dX7_put_85 (by decide) ?_
            refine call_i (cVt (k := 1076) (av := [.int (-5)]) (rest := []) B hP hS (d_X7_refuse5 l E ρ110) lk_RX7_64 (hrecv (ci := 7) B hP (hk_lt (c := 7) (show hk 1076 = 7 by decide +kernel) (by decide)) (hcc7 _ _ (show hk 1076 = 7 by decide +kernel)) rfl) rfl rfl hl.1 (Nat.le_of_ble_eq_true rfl) ⟨Nat.le_of_ble_eq_true rfl, Nat.le_of_ble_eq_true rfl⟩ ⟨Nat.le_of_ble_eq_true rfl, Nat.le_of_ble_eq_true rfl⟩ dX7_put_87) hS (fun r208 ρ209 H locs q210 hP hS => ?_)
            have hJ2 := (show PJ r M L ρ209 from by rw [q210]; exact PJ_ref (PJ_RI hQ hI))
            have hQ := hJ2.1
            have hI := PJ_I hJ2
            exact ret_i B hr hlk hP hS dX7_put_90 (PJ_RI hQ hI)
    · skip
      refine lv_if_ne (tgt := 34) hx hb dX7_put_25 (by decide) (fun c211 => absurd rfl c211) (fun _ => ?_)
      refine lv_aload_n hx hb dX7_put_28 rfl (lv_at hl 0 rfl) ?_
      refine lv_iconst (v := (-1)) hx hb dX7_put_29 (by decide) ?_
      refine call_i (cVt (k := 1076) (av := [.int (-1)]) (rest := []) B hP hS (d_X7_refuse1 l E ρ110) lk_RX7_64 (hrecv (ci := 7) B hP (hk_lt (c := 7) (show hk 1076 = 7 by decide +kernel) (by decide)) (hcc7 _ _ (show hk 1076 = 7 by decide +kernel)) rfl) rfl rfl hl.1 (Nat.le_of_ble_eq_true rfl) ⟨Nat.le_of_ble_eq_true rfl, Nat.le_of_ble_eq_true rfl⟩ ⟨Nat.le_of_ble_eq_true rfl, Nat.le_of_ble_eq_true rfl⟩ dX7_put_30) hS (fun r212 ρ213 H locs q214 hP hS => ?_)
      have hJ2 := (show PJ r M L ρ213 from by rw [q214]; exact PJ_ref (PJ_RI hQ hI))
      have hQ := hJ2.1
      have hI := PJ_I hJ2
      exact ret_i B hr hlk hP hS dX7_put_33 (PJ_RI hQ hI)
  · skip
    refine lv_if_eq (tgt := 28) hx hb dX7_put_12 (by decide) (fun _ => ?_) (fun c215 => absurd rfl c215)
    refine lv_aload_n hx hb dX7_put_28 rfl (lv_at hl 0 rfl) ?_
    refine lv_iconst (v := (-1)) hx hb dX7_put_29 (by decide) ?_
    refine call_i (cVt (k := 1076) (av := [.int (-1)]) (rest := []) B hP hS (d_X7_refuse1 l E ρ110) lk_RX7_64 (hrecv (ci := 7) B hP (hk_lt (c := 7) (show hk 1076 = 7 by decide +kernel) (by decide)) (hcc7 _ _ (show hk 1076 = 7 by decide +kernel)) rfl) rfl rfl hl.1 (Nat.le_of_ble_eq_true rfl) ⟨Nat.le_of_ble_eq_true rfl, Nat.le_of_ble_eq_true rfl⟩ ⟨Nat.le_of_ble_eq_true rfl, Nat.le_of_ble_eq_true rfl⟩ dX7_put_30) hS (fun r216 ρ217 H locs q218 hP hS => ?_)
    have hJ2 := (show PJ r M L ρ217 from by rw [q218]; exact PJ_ref (PJ_RI hQ hI))
    have hQ := hJ2.1
    have hI := PJ_I hJ2
    exact ret_i B hr hlk hP hS dX7_put_33 (PJ_RI hQ hI)

theorem lk_RX7_149 : LkS RX7 149 yX7_isEven cX7_isEven 3 (some .boolean) 3 := ⟨⟨mw_1212, mw_1213, mw_59, mw_1214⟩, by decide +kernel⟩
set_option maxHeartbeats 4000000 in
set_option maxRecDepth 100000 in
theorem d_X7_sniff (l : Launch) (E : hE) (ρ r : Nat → Nat → Int32) (M : Nat → Int32) (L : Nat → Nat) (hJ : PJ r M L ρ) (a1 : Int32) (a2 : Int32) (a3 : Int32) (a4 : Int32) : Met l yX7_sniff (.code yX7_sniff cX7_sniff 7 (some .int) :: gw_all) (rmk 4 160) (cPre E ρ [.ref (E.2.1 + 1076), .int a1, .int a2, .int a3, .int a4]) (cI E (fun v ρ1 => PJ r M L ρ1)) 0 0 (hA E) := by
  refine ent (own := RX7) (by decide) rfl (Nat.le_of_ble_eq_true rfl) ?_
  intro p e s m below meth c ls B hr hlk hl hP hS
  have hx := B.1.1
  have hb := B.1.2.1
  have hown := B.1.2.2.2.1
  have hts := B.1.2.2.2.2
  have hl : lv_has ls 7 [(0, .ref (E.2.1 + 1076)), (1, .int a1), (2, .int a2), (3, .int a3), (4, .int a4)] := hl
  have hQ := hJ.1
  have hI := PJ_I hJ
  have b110_0 : ∀ (ls : Array Slot) (ρ : Nat → Nat → Int32) (H : Heap) (locs : List Loc) (x110_6 : Int32), lv_has ls 7 [(0, .ref (E.2.1 + 1076)), (6, .int x110_6)] → WP E ρ H → va_S (hA E) s.heap H locs → PJ r M L ρ → iR x110_6 (-2147483648) (2147483647) → iR (M (nn a1)) (0) (5) → iR a1 (0) (1) → iR a2 (0) (3) → iR a3 (1) (2147483647) → 1 ≤ (L (nn a1)) → (L (nn a1)) ≤ 4 → 0 ≤ (nn a1) → (nn a1) ≤ 1 → 0 ≤ (nn a2) → (nn a2) ≤ 3 → (nn a2) + 1 ≤ L (nn a1) → W p l e (rmk 4 160) s m ([.ref (E.2.1 + 1076), .int a1, .int a2, .int a3, .int a4] : List Value).toArray below meth c H locs 0 0 (MQ below (cI E (fun v ρ1 => PJ r M L ρ1)) ([.ref (E.2.1 + 1076), .int a1, .int a2, .int a3, .int a4] : List Value).toArray s 0 0 (hA E)) (F0 m 110 ls [.int a4, .int (nI (145 + 326 * (nn a1) + 66 * (nn a2))), .ref (E.2.1 + 1078)]) := by
    intro ls ρ H locs x110_6 hl hP hS hI hx110_6 f_M__nn_a1__ fa1 fa2 fa3 tl_L__nn_a1__ tu_L__nn_a1__ tl_nn_a1_ tu_nn_a1_ tl_nn_a2_ tu_nn_a2_ hr110_0
    have hQ := hI.1
    have hI := PJ_I hI
    refine astn (n := 695) (j := (145 + 326 * (nn a1) + 66 * (nn a2))) B hP hS (show hk 1078 = 8 by decide +kernel) (show hlen 1078 = 695 by decide +kernel) rfl (by omega) (by decide) dX7_sniff_110 (fun H locs hP hS => ?_)
    obtain ⟨ρ63, e64⟩ : ∃ z, z = up ρ 1078 (145 + 326 * (nn a1) + 66 * (nn a2)) a4 := ⟨_, rfl⟩
    rw [← e64] at hP
    have hI : RI ρ 99998 M L X0 ρ63 := by rw [e64]; exact RI_up hI (ok_link (n0 := (nn a1)) (l0 := (nn a2)) (j := (145 + 326 * (nn a1) + 66 * (nn a2))) 41 (by omega) (by omega) (by omega) (by omega))
    refine lv_aload_n hx hb dX7_sniff_111 rfl (lv_at hl 0 rfl) ?_
    refine lv_iload hx hb dX7_sniff_112 (lv_at hl 1 rfl) ?_
    refine call_i (cVt (k := 1076) (av := [.int x110_6]) (rest := []) B hP hS (d_X7_tell l E ρ63 x110_6) lk_RX7_68 (hrecv (ci := 7) B hP (hk_lt (c := 7) (show hk 1076 = 7 by decide +kernel) (by decide)) (hcc7 _ _ (show hk 1076 = 7 by decide +kernel)) rfl) rfl rfl hl.1 (Nat.le_of_ble_eq_true rfl) ⟨Nat.le_of_ble_eq_true rfl, Nat.le_of_ble_eq_true rfl⟩ ⟨Nat.le_of_ble_eq_true rfl, Nat.le_of_ble_eq_true rfl⟩ dX7_sniff_114) hS (fun r65 ρ66 H locs q67 hP hS => ?_)
    have hI : RI ρ 99998 M L X0 ρ66 := by rw [q67]; exact RI_76 hI (by decide)
    exact ret_i B hr hlk hP hS dX7_sniff_117 (PJ_RI hQ hI)
  have b110_1 : ∀ (ls : Array Slot) (ρ : Nat → Nat → Int32) (H : Heap) (locs : List Loc) (x110_6 : Int32), lv_has ls 7 [(0, .ref (E.2.1 + 1076)), (6, .int x110_6)] → WP E ρ H → va_S (hA E) s.heap H locs → PJ r M L ρ → iR x110_6 (-2147483648) (2147483647) → iR (M (nn a1)) (0) (5) → iR a1 (0) (1) → iR a2 (0) (3) → iR a3 (-2147483648) (0) → 1 ≤ (L (nn a1)) → (L (nn a1)) ≤ 4 → 0 ≤ (nn a1) → (nn a1) ≤ 1 → 0 ≤ (nn a2) → (nn a2) ≤ 3 → (nn a2) + 1 ≤ L (nn a1) → W p l e (rmk 4 160) s m ([.ref (E.2.1 + 1076), .int a1, .int a2, .int a3, .int a4] : List Value).toArray below meth c H locs 0 0 (MQ below (cI E (fun v ρ1 => PJ r M L ρ1)) ([.ref (E.2.1 + 1076), .int a1, .int a2, .int a3, .int a4] : List Value).toArray s 0 0 (hA E)) (F0 m 110 ls [.int 0, .int (nI (145 + 326 * (nn a1) + 66 * (nn a2))), .ref (E.2.1 + 1078)]) := by
    intro ls ρ H locs x110_6 hl hP hS hI hx110_6 f_M__nn_a1__ fa1 fa2 fa3 tl_L__nn_a1__ tu_L__nn_a1__ tl_nn_a1_ tu_nn_a1_ tl_nn_a2_ tu_nn_a2_ hr110_0
    have hQ := hI.1
    have hI := PJ_I hI
    refine astn (n := 695) (j := (145 + 326 * (nn a1) + 66 * (nn a2))) B hP hS (show hk 1078 = 8 by decide +kernel) (show hlen 1078 = 695 by decide +kernel) rfl (by omega) (by decide) dX7_sniff_110 (fun H locs hP hS => ?_)
    obtain ⟨ρ68, e69⟩ : ∃ z, z = up ρ 1078 (145 + 326 * (nn a1) + 66 * (nn a2)) 0 := ⟨_, rfl⟩
    rw [← e69] at hP
    have hI : RI ρ 99998 M L X0 ρ68 := by rw [e69]; exact RI_up hI (ok_link (n0 := (nn a1)) (l0 := (nn a2)) (j := (145 + 326 * (nn a1) + 66 * (nn a2))) 41 (by omega) (by omega) (by omega) (by omega))
    refine lv_aload_n hx hb dX7_sniff_111 rfl (lv_at hl 0 rfl) ?_
    refine lv_iload hx hb dX7_sniff_112 (lv_at hl 1 rfl) ?_
    refine call_i (cVt (k := 1076) (av := [.int x110_6]) (rest := []) B hP hS (d_X7_tell l E ρ68 x110_6) lk_RX7_68 (hrecv (ci := 7) B hP (hk_lt (c := 7) (show hk 1076 = 7 by decide +kernel) (by decide)) (hcc7 _ _ (show hk 1076 = 7 by decide +kernel)) rfl) rfl rfl hl.1 (Nat.le_of_ble_eq_true rfl) ⟨Nat.le_of_ble_eq_true rfl, Nat.le_of_ble_eq_true rfl⟩ ⟨Nat.le_of_ble_eq_true rfl, Nat.le_of_ble_eq_true rfl⟩ dX7_sniff_114) hS (fun r70 ρ71 H locs q72 hP hS => ?_)
    have hI : RI ρ 99998 M L X0 ρ71 := by rw [q72]; exact RI_76 hI (by decide)
    exact ret_i B hr hlk hP hS dX7_sniff_117 (PJ_RI hQ hI)
  have b39_0 : ∀ (ls : Array Slot) (ρ : Nat → Nat → Int32) (H : Heap) (locs : List Loc) , lv_has ls 7 [(0, .ref (E.2.1 + 1076)), (1, .int a1), (2, .int a2), (3, .int a3), (4, .int a4)] → WP E ρ H → va_S (hA E) s.heap H locs → PJ r M L ρ → W p l e (rmk 4 160) s m ([.ref (E.2.1 + 1076), .int a1, .int a2, .int a3, .int a4] : List Value).toArray below meth c H locs 0 0 (MQ below (cI E (fun v ρ1 => PJ r M L ρ1)) ([.ref (E.2.1 + 1076), .int a1, .int a2, .int a3, .int a4] : List Value).toArray s 0 0 (hA E)) (F0 m 39 ls []) := by
    intro ls ρ H locs  hl hP hS hI
    have hQ := hI.1
    have hI := PJ_I hI
    refine lv_aload_n hx hb dX7_sniff_39 rfl (lv_at hl 0 rfl) ?_
    refine lv_iload_n hx hb dX7_sniff_40 rfl (lv_at hl 1 rfl) ?_
    refine lv_iload_n hx hb dX7_sniff_41 rfl (lv_at hl 2 rfl) ?_
    refine call_i (cVt (k := 1076) (av := [.int a1, .int a2]) (rest := []) B hP hS (d_X7_isLink l E ρ ρ 99998 (by decide) M L X0 a1 a2 hI) lk_RX7_106 (hrecv (ci := 7) B hP (hk_lt (c := 7) (show hk 1076 = 7 by decide +kernel) (by decide)) (hcc7 _ _ (show hk 1076 = 7 by decide +kernel)) rfl) rfl rfl hl.1 (Nat.le_of_ble_eq_true rfl) ⟨Nat.le_of_ble_eq_true rfl, Nat.le_of_ble_eq_true rfl⟩ ⟨Nat.le_of_ble_eq_true rfl, Nat.le_of_ble_eq_true rfl⟩ dX7_sniff_42) hS (fun r73 ρ74 H locs q75 hP hS => ?_)
    obtain ⟨rfl, hI, q75⟩ := q75
    rcases q75 with rfl | ⟨rfl, j76, hj76, ej76, i77, j78, hj78, ej78⟩
    · skip
      refine lv_if_ne (tgt := 55) hx hb dX7_sniff_45 (by decide) (fun c79 => absurd rfl c79) (fun _ => ?_)
      refine lv_aload_n hx hb dX7_sniff_48 rfl (lv_at hl 0 rfl) ?_
      refine lv_bipush (v := (-2)) hx hb dX7_sniff_49 (by decide) ?_
      refine call_i (cVt (k := 1076) (av := [.int (-2)]) (rest := []) B hP hS (d_X7_refuse2 l E ρ) lk_RX7_64 (hrecv (ci := 7) B hP (hk_lt (c := 7) (show hk 1076 = 7 by decide +kernel) (by decide)) (hcc7 _ _ (show hk 1076 = 7 by decide +kernel)) rfl) rfl rfl hl.1 (Nat.le_of_ble_eq_true rfl) ⟨Nat.le_of_ble_eq_true rfl, Nat.le_of_ble_eq_true rfl⟩ ⟨Nat.le_of_ble_eq_true rfl, Nat.le_of_ble_eq_true rfl⟩ dX7_sniff_51) hS (fun r80 ρ81 H locs q82 hP hS => ?_)
      have hJ2 := (show PJ r M L ρ81 from by rw [q82]; exact PJ_ref (PJ_RI hQ hI))
      have hQ := hJ2.1
      have hI := PJ_I hJ2
      exact ret_i B hr hlk hP hS dX7_sniff_54 (PJ_RI hQ hI)
    · skip
      have := RI_Lb hI hj76
      have n83 : nn a1 = j76 := nn_u ej76 (by omega)
      have i84 : iR (M (nn a1)) 0 5 := by rw [n83]; exact i77
      have : j78 < L (nn a1) := by rw [n83]; exact hj78
      have := RI_Lb (n := (nn a1)) hI (by omega)
      have n85 : nn a2 = j78 := nn_u ej78 (by omega)
      refine lv_if_ne (tgt := 55) hx hb dX7_sniff_45 (by decide) (fun _ => ?_) (fun c86 => absurd c86 (iR_ne (show iR 1 (1) (1) from ⟨by decide, by decide⟩) (show iR 0 (0) (0) from ⟨by decide, by decide⟩) (by decide)))
      refine lv_aload_n hx hb dX7_sniff_55 rfl (lv_at hl 0 rfl) ?_
      refine lv_bipush (v := 10) hx hb dX7_sniff_56 (by decide) ?_
      refine call_v (cVt (k := 1076) (av := [.int 10]) (rest := []) B hP hS (d_X7_remember l E ρ r M L (PJ_RI hQ hI) ρ rfl 10) lk_RX7_118 (hrecv (ci := 7) B hP (hk_lt (c := 7) (show hk 1076 = 7 by decide +kernel) (by decide)) (hcc7 _ _ (show hk 1076 = 7 by decide +kernel)) rfl) rfl rfl hl.1 (Nat.le_of_ble_eq_true rfl) ⟨Nat.le_of_ble_eq_true rfl, Nat.le_of_ble_eq_true rfl⟩ ⟨Nat.le_of_ble_eq_true rfl, Nat.le_of_ble_eq_true rfl⟩ dX7_sniff_58) hS (fun ρ88 H locs q89 hP hS => ?_)
      obtain ⟨hJ2, hrow90⟩ := q89
      have hJ2 := hJ2
      have hQ := hJ2.1
      have hI := PJ_I hJ2
      refine lv_iload_n hx hb dX7_sniff_61 rfl (lv_at hl 1 rfl) ?_
      refine lv_topi (fun z91 ez91 => ?_)
      obtain rfl : z91 = nI (nn a1) := ez91.trans (nn_eq a1)
      refine lv_iload_n hx hb dX7_sniff_62 rfl (lv_at hl 2 rfl) ?_
      refine lv_topi (fun z92 ez92 => ?_)
      obtain rfl : z92 = nI (nn a2) := ez92.trans (nn_eq a2)
      refine call_i (cS (av := [.int (nI (nn a1)), .int (nI (nn a2))]) (rest := []) B hP hS (d_X7_linkAt l E ρ88 ρ88 99998 (by decide) M L X0 (nn a1) (by omega) (by omega) (nn a2) (by omega) (by omega) hI) lk_RX7_82 rfl rfl hl.1 (Nat.le_of_ble_eq_true rfl) ⟨Nat.le_of_ble_eq_true rfl, Nat.le_of_ble_eq_true rfl⟩ ⟨Nat.le_of_ble_eq_true rfl, Nat.le_of_ble_eq_true rfl⟩ dX7_sniff_63) hS (fun r93 ρ94 H locs q95 hP hS => ?_)
      obtain ⟨rfl, hI, q95⟩ := q95
      obtain rfl : r93 = nI (104 + 326 * (nn a1) + 66 * (nn a2)) := q95.trans (congrArg nI (by omega))
      refine lv_istore (lv' := [(5, .int (nI (104 + 326 * (nn a1) + 66 * (nn a2)))), (0, .ref (E.2.1 + 1076)), (1, .int a1), (2, .int a2), (3, .int a3), (4, .int a4)]) hx hb dX7_sniff_66 hl (by decide) rfl (fun ls hl => ?_)
      refine lv_aload_n hx hb dX7_sniff_68 rfl (lv_at hl 1 rfl) ?_
      refine get7 B hP (show hk 1076 = 7 by decide +kernel) 3 (by decide) mw_1030 rfl dX7_sniff_69 ?_
      refine lv_iload hx hb dX7_sniff_72 (lv_at hl 0 rfl) ?_
      refine lv_bipush (v := 40) hx hb dX7_sniff_74 (by decide) ?_
      refine lv_iadd hx hb dX7_sniff_76 ?_
      refine lv_topi (fun z96 ez96 => ?_)
      obtain rfl : z96 = (nI (144 + 326 * (nn a1) + 66 * (nn a2))) := ez96.trans (by rw [show (nI (104 + 326 * (nn a1) + 66 * (nn a2))) = nI (104 + 326 * (nn a1) + 66 * (nn a2)) from rfl, show 40 = nI 40 from rfl, nI_add] <;> exact congrArg nI (by omega))
      refine aldn (n := 695) (j := (144 + 326 * (nn a1) + 66 * (nn a2))) B hP (show hk 1078 = 8 by decide +kernel) (show hlen 1078 = 695 by decide +kernel) rfl (by omega) (by decide) dX7_sniff_77 ?_
      refine lv_istore (lv' := [(6, .int (ρ88 1078 (144 + 326 * (nn a1) + 66 * (nn a2)))), (5, .int (nI (104 + 326 * (nn a1) + 66 * (nn a2)))), (0, .ref (E.2.1 + 1076)), (1, .int a1), (2, .int a2), (3, .int a3), (4, .int a4)]) hx hb dX7_sniff_78 hl (by decide) rfl (fun ls hl => ?_)
      refine lv_aload_n hx hb dX7_sniff_80 rfl (lv_at hl 2 rfl) ?_
      refine get7 B hP (show hk 1076 = 7 by decide +kernel) 3 (by decide) mw_1030 rfl dX7_sniff_81 ?_
      refine lv_iload hx hb dX7_sniff_84 (lv_at hl 1 rfl) ?_
      refine lv_bipush (v := 40) hx hb dX7_sniff_86 (by decide) ?_
      refine lv_iadd hx hb dX7_sniff_88 ?_
      refine lv_topi (fun z97 ez97 => ?_)
      obtain rfl : z97 = (nI (144 + 326 * (nn a1) + 66 * (nn a2))) := ez97.trans (by rw [show (nI (104 + 326 * (nn a1) + 66 * (nn a2))) = nI (104 + 326 * (nn a1) + 66 * (nn a2)) from rfl, show 40 = nI 40 from rfl, nI_add] <;> exact congrArg nI (by omega))
      refine lv_iload_n hx hb dX7_sniff_89 rfl (lv_at hl 5 rfl) ?_
      refine astn (n := 695) (j := (144 + 326 * (nn a1) + 66 * (nn a2))) B hP hS (show hk 1078 = 8 by decide +kernel) (show hlen 1078 = 695 by decide +kernel) rfl (by omega) (by decide) dX7_sniff_90 (fun H locs hP hS => ?_)
      obtain ⟨ρ98, e99⟩ : ∃ z, z = up ρ88 1078 (144 + 326 * (nn a1) + 66 * (nn a2)) a3 := ⟨_, rfl⟩
      rw [← e99] at hP
      have hI : RI ρ88 99998 M L X0 ρ98 := by rw [e99]; exact RI_up hI (ok_link (n0 := (nn a1)) (l0 := (nn a2)) (j := (144 + 326 * (nn a1) + 66 * (nn a2))) 40 (by omega) (by omega) (by omega) (by omega))
      refine lv_aload_n hx hb dX7_sniff_91 rfl (lv_at hl 2 rfl) ?_
      refine get7 B hP (show hk 1076 = 7 by decide +kernel) 3 (by decide) mw_1030 rfl dX7_sniff_92 ?_
      refine lv_iload hx hb dX7_sniff_95 (lv_at hl 1 rfl) ?_
      refine lv_bipush (v := 41) hx hb dX7_sniff_97 (by decide) ?_
      refine lv_iadd hx hb dX7_sniff_99 ?_
      refine lv_topi (fun z100 ez100 => ?_)
      obtain rfl : z100 = (nI (145 + 326 * (nn a1) + 66 * (nn a2))) := ez100.trans (by rw [show (nI (104 + 326 * (nn a1) + 66 * (nn a2))) = nI (104 + 326 * (nn a1) + 66 * (nn a2)) from rfl, show 41 = nI 41 from rfl, nI_add] <;> exact congrArg nI (by omega))
      refine lv_iload_n hx hb dX7_sniff_100 rfl (lv_at hl 5 rfl) ?_
      refine lv_if_le (tgt := 109) hx hb dX7_sniff_101 (by decide) (fun c101 => ?_) (fun c101 => ?_)
      · skip
        have i102 : iR a3 (-2147483648) (0) := (iR_geR (show iR 0 (0) (0) from ⟨by decide, by decide⟩) (iR_any a3) (Int32.not_lt.mpr c101) (by decide))
        refine lv_iconst (v := 0) hx hb dX7_sniff_109 (by decide) ?_
        exact b110_1 ls ρ98 _ _ ((ρ88 1078 (144 + 326 * (nn a1) + 66 * (nn a2))) : Int32) (lv_sub hl [2, 0] rfl) hP hS (PJ_RI hQ hI) (iR_w (iR_any (ρ88 1078 (144 + 326 * (nn a1) + 66 * (nn a2)))) (by decide) (by decide)) (iR_w i84 (by decide) (by decide)) (iR_w (show iR a1 0 1 from by rw [ej76]; exact nI_iR (by omega) (by omega) (by omega)) (by decide) (by decide)) (iR_w (show iR a2 0 3 from by rw [ej78]; exact nI_iR (by omega) (by omega) (by omega)) (by decide) (by decide)) (iR_w i102 (by decide) (by decide)) (by omega) (by omega) (by omega) (by omega) (by omega) (by omega) (by omega)
      · skip
        have i103 : iR a3 (1) (2147483647) := (iR_ltR (show iR 0 (0) (0) from ⟨by decide, by decide⟩) (iR_any a3) (Int32.not_le.mp c101) (by decide))
        refine lv_iload hx hb dX7_sniff_104 (lv_at hl 6 rfl) ?_
        refine lv_goto (tgt := 110) hx hb dX7_sniff_106 (by decide) ?_
        exact b110_0 ls ρ98 _ _ ((ρ88 1078 (144 + 326 * (nn a1) + 66 * (nn a2))) : Int32) (lv_sub hl [2, 0] rfl) hP hS (PJ_RI hQ hI) (iR_w (iR_any (ρ88 1078 (144 + 326 * (nn a1) + 66 * (nn a2)))) (by decide) (by decide)) (iR_w i84 (by decide) (by decide)) (iR_w (show iR a1 0 1 from by rw [ej76]; exact nI_iR (by omega) (by omega) (by omega)) (by decide) (by decide)) (iR_w (show iR a2 0 3 from by rw [ej78]; exact nI_iR (by omega) (by omega) (by omega)) (by decide) (by decide)) (iR_w i103 (by decide) (by decide)) (by omega) (by omega) (by omega) (by omega) (by omega) (by omega) (by omega)
  have b33_0 : ∀ (ls : Array Slot) (ρ : Nat → Nat → Int32) (H : Heap) (locs : List Loc) , lv_has ls 7 [(0, .ref (E.2.1 + 1076))] → WP E ρ H → va_S (hA E) s.heap H locs → PJ r M L ρ → W p l e (rmk 4 160) s m ([.ref (E.2.1 + 1076), .int a1, .int a2, .int a3, .int a4] : List Value).toArray below meth c H locs 0 0 (MQ below (cI E (fun v ρ1 => PJ r M L ρ1)) ([.ref (E.2.1 + 1076), .int a1, .int a2, .int a3, .int a4] : List Value).toArray s 0 0 (hA E)) (F0 m 33 ls []) := by
    intro ls ρ H locs  hl hP hS hI
    have hQ := hI.1
    have hI := PJ_I hI
    refine lv_aload_n hx hb dX7_sniff_33 rfl (lv_at hl 0 rfl) ?_
    refine lv_iconst (v := (-1)) hx hb dX7_sniff_34 (by decide) ?_
    refine call_i (cVt (k := 1076) (av := [.int (-1)]) (rest := []) B hP hS (d_X7_refuse1 l E ρ) lk_RX7_64 (hrecv (ci := 7) B hP (hk_lt (c := 7) (show hk 1076 = 7 by decide +kernel) (by decide)) (hcc7 _ _ (show hk 1076 = 7 by decide +kernel)) rfl) rfl rfl hl.1 (Nat.le_of_ble_eq_true rfl) ⟨Nat.le_of_ble_eq_true rfl, Nat.le_of_ble_eq_true rfl⟩ ⟨Nat.le_of_ble_eq_true rfl, Nat.le_of_ble_eq_true rfl⟩ dX7_sniff_35) hS (fun r104 ρ105 H locs q106 hP hS => ?_)
    have hJ2 := (show PJ r M L ρ105 from by rw [q106]; exact PJ_ref (PJ_RI hQ hI))
    have hQ := hJ2.1
    have hI := PJ_I hJ2
    exact ret_i B hr hlk hP hS dX7_sniff_38 (PJ_RI hQ hI)
  refine lv_aload_n hx hb dX7_sniff_0 rfl (lv_at hl 0 rfl) ?_
  refine lv_iconst (v := 0) hx hb dX7_sniff_1 (by decide) ?_
  refine put7 B hP hS (show hk 1076 = 7 by decide +kernel) 0 (by decide) mw_1027 rfl rfl rfl (fs7_0 E 1076 _ _) dX7_sniff_2 (fun H locs hP hS => ?_)
  obtain ⟨ρ107, e108⟩ : ∃ z, z = up ρ 1076 0 0 := ⟨_, rfl⟩
  rw [← e108] at hP
  have hI : RI ρ 99998 M L X0 ρ107 := by rw [e108]; exact RI_76 hI (by decide)
  refine lv_iload_n hx hb dX7_sniff_5 rfl (lv_at hl 3 rfl) ?_
  refine lv_if_eq (tgt := 39) hx hb dX7_sniff_6 (by decide) (fun c109 => ?_) (fun c109 => ?_)
  · skip
    have i110 : iR a3 (0) (0) := (by rw [c109]; exact ⟨by decide, by decide⟩)
    exact b39_0 ls ρ107 _ _  (lv_sub hl [0, 1, 2, 3, 4] rfl) hP hS (PJ_RI hQ hI) 
  · skip
    refine lv_iload_n hx hb dX7_sniff_9 rfl (lv_at hl 3 rfl) ?_
    refine lv_bipush (v := 8) hx hb dX7_sniff_10 (by decide) ?_
    refine lv_bipush (v := 64) hx hb dX7_sniff_12 (by decide) ?_
    refine call_i (cS (av := [.int a3, .int 8, .int 64]) (rest := []) B hP hS (d_X7_isEven l E ρ107 ρ 99998 (by decide) M L X0 a3 8 64 hI) lk_RX7_149 rfl rfl hl.1 (Nat.le_of_ble_eq_true rfl) ⟨Nat.le_of_ble_eq_true rfl, Nat.le_of_ble_eq_true rfl⟩ ⟨Nat.le_of_ble_eq_true rfl, Nat.le_of_ble_eq_true rfl⟩ dX7_sniff_14) hS (fun r111 ρ112 H locs q113 hP hS => ?_)
    obtain ⟨rfl, hI, q113⟩ := q113
    obtain ⟨j114, lj114, uj114, ej114⟩ := iR_nat (a := 0) (b := 1) q113
    refine lv_topi (fun z115 ez115 => ?_)
    obtain rfl : z115 = nI j114 := ez115.trans ej114
    refine lv_if_eq (tgt := 33) hx hb dX7_sniff_17 (by decide) (fun c116 => ?_) (fun c116 => ?_)
    · skip
      have n117 := (nI_eq (a := j114) (b := 0) (by omega) (by omega)).mp (show (nI j114 = nI 0) from c116)
      exact b33_0 ls ρ107 _ _  (lv_sub hl [0] rfl) hP hS (PJ_RI hQ hI) 
    · skip
      have n118 := mt (nI_eq (a := j114) (b := 0) (by omega) (by omega)).mpr (show ¬ (nI j114 = nI 0) from c116)
      refine lv_iload hx hb dX7_sniff_20 (lv_at hl 4 rfl) ?_
      refine lv_i2l hx hb dX7_sniff_22 rfl ?_
      refine lv_lconst (v := 1) hx hb dX7_sniff_23 (by decide) ?_
      refine lv_ldc2 (v := 4) hx hb hown (hts _ mw_1198) dX7_sniff_24 ?_
      refine call_i (cS (av := [.long a4.toInt64, .long 1, .long 4]) (rest := []) B hP hS (c_in l E ρ107 a4.toInt64 1 4 1 4 (by decide) (by decide)) lk_RX7_71 rfl rfl hl.1 (Nat.le_of_ble_eq_true rfl) ⟨Nat.le_of_ble_eq_true rfl, Nat.le_of_ble_eq_true rfl⟩ ⟨Nat.le_of_ble_eq_true rfl, Nat.le_of_ble_eq_true rfl⟩ dX7_sniff_27) hS (fun r119 ρ120 H locs q121 hP hS => ?_)
      obtain ⟨rfl, q121⟩ := q121
      rcases q121 with ⟨rfl, q121⟩ | ⟨rfl, q121⟩
      · skip
        have i122 : iR a4 1 4 := (lR_i _ _ _).mp q121
        refine lv_if_ne (tgt := 39) hx hb dX7_sniff_30 (by decide) (fun _ => ?_) (fun c123 => absurd c123 (iR_ne (show iR 1 (1) (1) from ⟨by decide, by decide⟩) (show iR 0 (0) (0) from ⟨by decide, by decide⟩) (by decide)))
        exact b39_0 ls ρ107 _ _  (lv_sub hl [0, 1, 2, 3, 4] rfl) hP hS (PJ_RI hQ hI) 
      · skip
        refine lv_if_ne (tgt := 39) hx hb dX7_sniff_30 (by decide) (fun c124 => absurd rfl c124) (fun _ => ?_)
        exact b33_0 ls ρ107 _ _  (lv_sub hl [0] rfl) hP hS (PJ_RI hQ hI) 

set_option maxHeartbeats 4000000 in
set_option maxRecDepth 100000 in
theorem d_X7_weigh (l : Launch) (E : hE) (ρ r : Nat → Nat → Int32) (M : Nat → Int32) (L : Nat → Nat) (hJ : PJ r M L ρ) (a1 : Int32) (a2 : Int32) (a3 : Int32) : Met l yX7_weigh (.code yX7_weigh cX7_weigh 6 (some .int) :: gw_all) (rmk 4 160) (cPre E ρ [.ref (E.2.1 + 1076), .int a1, .int a2, .int a3]) (cI E (fun v ρ1 => PJ r M L ρ1)) 0 0 (hA E) := by
  refine ent (own := RX7) (by decide) rfl (Nat.le_of_ble_eq_true rfl) ?_
  intro p e s m below meth c ls B hr hlk hl hP hS
  have hx := B.1.1
  have hb := B.1.2.1
  have hown := B.1.2.2.2.1
  have hts := B.1.2.2.2.2
  have hl : lv_has ls 6 [(0, .ref (E.2.1 + 1076)), (1, .int a1), (2, .int a2), (3, .int a3)] := hl
  have hQ := hJ.1
  have hI := PJ_I hJ
  refine lv_aload_n hx hb dX7_weigh_0 rfl (lv_at hl 0 rfl) ?_
  refine lv_iconst (v := 0) hx hb dX7_weigh_1 (by decide) ?_
  refine put7 B hP hS (show hk 1076 = 7 by decide +kernel) 0 (by decide) mw_1027 rfl rfl rfl (fs7_0 E 1076 _ _) dX7_weigh_2 (fun H locs hP hS => ?_)
  obtain ⟨ρ43, e44⟩ : ∃ z, z = up ρ 1076 0 0 := ⟨_, rfl⟩
  rw [← e44] at hP
  have hI : RI ρ 99998 M L X0 ρ43 := by rw [e44]; exact RI_76 hI (by decide)
  refine lv_iload_n hx hb dX7_weigh_5 rfl (lv_at hl 3 rfl) ?_
  refine lv_i2l hx hb dX7_weigh_6 rfl ?_
  refine lv_lconst (v := 1) hx hb dX7_weigh_7 (by decide) ?_
  refine lv_ldc2 (v := 4) hx hb hown (hts _ mw_1198) dX7_weigh_8 ?_
  refine call_i (cS (av := [.long a3.toInt64, .long 1, .long 4]) (rest := []) B hP hS (c_in l E ρ43 a3.toInt64 1 4 1 4 (by decide) (by decide)) lk_RX7_71 rfl rfl hl.1 (Nat.le_of_ble_eq_true rfl) ⟨Nat.le_of_ble_eq_true rfl, Nat.le_of_ble_eq_true rfl⟩ ⟨Nat.le_of_ble_eq_true rfl, Nat.le_of_ble_eq_true rfl⟩ dX7_weigh_11) hS (fun r45 ρ46 H locs q47 hP hS => ?_)
  obtain ⟨rfl, q47⟩ := q47
  rcases q47 with ⟨rfl, q47⟩ | ⟨rfl, q47⟩
  · skip
    have i48 : iR a3 1 4 := (lR_i _ _ _).mp q47
    refine lv_if_ne (tgt := 23) hx hb dX7_weigh_14 (by decide) (fun _ => ?_) (fun c49 => absurd c49 (iR_ne (show iR 1 (1) (1) from ⟨by decide, by decide⟩) (show iR 0 (0) (0) from ⟨by decide, by decide⟩) (by decide)))
    refine lv_aload_n hx hb dX7_weigh_23 rfl (lv_at hl 0 rfl) ?_
    refine lv_iload_n hx hb dX7_weigh_24 rfl (lv_at hl 1 rfl) ?_
    refine lv_iload_n hx hb dX7_weigh_25 rfl (lv_at hl 2 rfl) ?_
    refine call_i (cVt (k := 1076) (av := [.int a1, .int a2]) (rest := []) B hP hS (d_X7_isLink l E ρ43 ρ 99998 (by decide) M L X0 a1 a2 hI) lk_RX7_106 (hrecv (ci := 7) B hP (hk_lt (c := 7) (show hk 1076 = 7 by decide +kernel) (by decide)) (hcc7 _ _ (show hk 1076 = 7 by decide +kernel)) rfl) rfl rfl hl.1 (Nat.le_of_ble_eq_true rfl) ⟨Nat.le_of_ble_eq_true rfl, Nat.le_of_ble_eq_true rfl⟩ ⟨Nat.le_of_ble_eq_true rfl, Nat.le_of_ble_eq_true rfl⟩ dX7_weigh_26) hS (fun r50 ρ51 H locs q52 hP hS => ?_)
    obtain ⟨rfl, hI, q52⟩ := q52
    rcases q52 with rfl | ⟨rfl, j53, hj53, ej53, i54, j55, hj55, ej55⟩
    · skip
      refine lv_if_ne (tgt := 39) hx hb dX7_weigh_29 (by decide) (fun c56 => absurd rfl c56) (fun _ => ?_)
      refine lv_aload_n hx hb dX7_weigh_32 rfl (lv_at hl 0 rfl) ?_
      refine lv_bipush (v := (-2)) hx hb dX7_weigh_33 (by decide) ?_
      refine call_i (cVt (k := 1076) (av := [.int (-2)]) (rest := []) B hP hS (d_X7_refuse2 l E ρ43) lk_RX7_64 (hrecv (ci := 7) B hP (hk_lt (c := 7) (show hk 1076 = 7 by decide +kernel) (by decide)) (hcc7 _ _ (show hk 1076 = 7 by decide +kernel)) rfl) rfl rfl hl.1 (Nat.le_of_ble_eq_true rfl) ⟨Nat.le_of_ble_eq_true rfl, Nat.le_of_ble_eq_true rfl⟩ ⟨Nat.le_of_ble_eq_true rfl, Nat.le_of_ble_eq_true rfl⟩ dX7_weigh_35) hS (fun r57 ρ58 H locs q59 hP hS => ?_)
      have hJ2 := (show PJ r M L ρ58 from by rw [q59]; exact PJ_ref (PJ_RI hQ hI))
      have hQ := hJ2.1
      have hI := PJ_I hJ2
      exact ret_i B hr hlk hP hS dX7_weigh_38 (PJ_RI hQ hI)
    · skip
      have := RI_Lb hI hj53
      have n60 : nn a1 = j53 := nn_u ej53 (by omega)
      have i61 : iR (M (nn a1)) 0 5 := by rw [n60]; exact i54
      have : j55 < L (nn a1) := by rw [n60]; exact hj55
      have := RI_Lb (n := (nn a1)) hI (by omega)
      have n62 : nn a2 = j55 := nn_u ej55 (by omega)
      refine lv_if_ne (tgt := 39) hx hb dX7_weigh_29 (by decide) (fun _ => ?_) (fun c63 => absurd c63 (iR_ne (show iR 1 (1) (1) from ⟨by decide, by decide⟩) (show iR 0 (0) (0) from ⟨by decide, by decide⟩) (by decide)))
      refine lv_aload_n hx hb dX7_weigh_39 rfl (lv_at hl 0 rfl) ?_
      refine lv_bipush (v := 12) hx hb dX7_weigh_40 (by decide) ?_
      refine call_v (cVt (k := 1076) (av := [.int 12]) (rest := []) B hP hS (d_X7_remember l E ρ43 r M L (PJ_RI hQ hI) ρ43 rfl 12) lk_RX7_118 (hrecv (ci := 7) B hP (hk_lt (c := 7) (show hk 1076 = 7 by decide +kernel) (by decide)) (hcc7 _ _ (show hk 1076 = 7 by decide +kernel)) rfl) rfl rfl hl.1 (Nat.le_of_ble_eq_true rfl) ⟨Nat.le_of_ble_eq_true rfl, Nat.le_of_ble_eq_true rfl⟩ ⟨Nat.le_of_ble_eq_true rfl, Nat.le_of_ble_eq_true rfl⟩ dX7_weigh_42) hS (fun ρ65 H locs q66 hP hS => ?_)
      obtain ⟨hJ2, hrow67⟩ := q66
      have hJ2 := hJ2
      have hQ := hJ2.1
      have hI := PJ_I hJ2
      refine lv_iload_n hx hb dX7_weigh_45 rfl (lv_at hl 1 rfl) ?_
      refine lv_topi (fun z68 ez68 => ?_)
      obtain rfl : z68 = nI (nn a1) := ez68.trans (nn_eq a1)
      refine lv_iload_n hx hb dX7_weigh_46 rfl (lv_at hl 2 rfl) ?_
      refine lv_topi (fun z69 ez69 => ?_)
      obtain rfl : z69 = nI (nn a2) := ez69.trans (nn_eq a2)
      refine call_i (cS (av := [.int (nI (nn a1)), .int (nI (nn a2))]) (rest := []) B hP hS (d_X7_linkAt l E ρ65 ρ65 99998 (by decide) M L X0 (nn a1) (by omega) (by omega) (nn a2) (by omega) (by omega) hI) lk_RX7_82 rfl rfl hl.1 (Nat.le_of_ble_eq_true rfl) ⟨Nat.le_of_ble_eq_true rfl, Nat.le_of_ble_eq_true rfl⟩ ⟨Nat.le_of_ble_eq_true rfl, Nat.le_of_ble_eq_true rfl⟩ dX7_weigh_47) hS (fun r70 ρ71 H locs q72 hP hS => ?_)
      obtain ⟨rfl, hI, q72⟩ := q72
      obtain rfl : r70 = nI (104 + 326 * (nn a1) + 66 * (nn a2)) := q72.trans (congrArg nI (by omega))
      refine lv_istore (lv' := [(4, .int (nI (104 + 326 * (nn a1) + 66 * (nn a2)))), (0, .ref (E.2.1 + 1076)), (1, .int a1), (2, .int a2), (3, .int a3)]) hx hb dX7_weigh_50 hl (by decide) rfl (fun ls hl => ?_)
      refine lv_aload_n hx hb dX7_weigh_52 rfl (lv_at hl 1 rfl) ?_
      refine get7 B hP (show hk 1076 = 7 by decide +kernel) 3 (by decide) mw_1030 rfl dX7_weigh_53 ?_
      refine lv_iload hx hb dX7_weigh_56 (lv_at hl 0 rfl) ?_
      refine lv_bipush (v := 48) hx hb dX7_weigh_58 (by decide) ?_
      refine lv_iadd hx hb dX7_weigh_60 ?_
      refine lv_topi (fun z73 ez73 => ?_)
      obtain rfl : z73 = (nI (152 + 326 * (nn a1) + 66 * (nn a2))) := ez73.trans (by rw [show (nI (104 + 326 * (nn a1) + 66 * (nn a2))) = nI (104 + 326 * (nn a1) + 66 * (nn a2)) from rfl, show 48 = nI 48 from rfl, nI_add] <;> exact congrArg nI (by omega))
      refine aldn (n := 695) (j := (152 + 326 * (nn a1) + 66 * (nn a2))) B hP (show hk 1078 = 8 by decide +kernel) (show hlen 1078 = 695 by decide +kernel) rfl (by omega) (by decide) dX7_weigh_61 ?_
      refine lv_istore (lv' := [(5, .int (ρ65 1078 (152 + 326 * (nn a1) + 66 * (nn a2)))), (4, .int (nI (104 + 326 * (nn a1) + 66 * (nn a2)))), (0, .ref (E.2.1 + 1076)), (1, .int a1), (2, .int a2), (3, .int a3)]) hx hb dX7_weigh_62 hl (by decide) rfl (fun ls hl => ?_)
      refine lv_aload_n hx hb dX7_weigh_64 rfl (lv_at hl 2 rfl) ?_
      refine get7 B hP (show hk 1076 = 7 by decide +kernel) 3 (by decide) mw_1030 rfl dX7_weigh_65 ?_
      refine lv_iload hx hb dX7_weigh_68 (lv_at hl 1 rfl) ?_
      refine lv_bipush (v := 48) hx hb dX7_weigh_70 (by decide) ?_
      refine lv_iadd hx hb dX7_weigh_72 ?_
      refine lv_topi (fun z74 ez74 => ?_)
      obtain rfl : z74 = (nI (152 + 326 * (nn a1) + 66 * (nn a2))) := ez74.trans (by rw [show (nI (104 + 326 * (nn a1) + 66 * (nn a2))) = nI (104 + 326 * (nn a1) + 66 * (nn a2)) from rfl, show 48 = nI 48 from rfl, nI_add] <;> exact congrArg nI (by omega))
      refine lv_iload_n hx hb dX7_weigh_73 rfl (lv_at hl 5 rfl) ?_
      have := nn_r (x := a3) (a := 1) (b := 4) i48 (by decide)
      refine lv_topi (fun z75 ez75 => ?_)
      obtain rfl : z75 = nI (nn a3) := ez75.trans (nn_eq a3)
      refine astn (n := 695) (j := (152 + 326 * (nn a1) + 66 * (nn a2))) B hP hS (show hk 1078 = 8 by decide +kernel) (show hlen 1078 = 695 by decide +kernel) rfl (by omega) (by decide) dX7_weigh_74 (fun H locs hP hS => ?_)
      obtain ⟨ρ76, e77⟩ : ∃ z, z = up ρ65 1078 (152 + 326 * (nn a1) + 66 * (nn a2)) (nI (nn a3)) := ⟨_, rfl⟩
      rw [← e77] at hP
      have hI : RI ρ65 99998 M L X0 ρ76 := by rw [e77]; exact RI_up hI (ok_link (n0 := (nn a1)) (l0 := (nn a2)) (j := (152 + 326 * (nn a1) + 66 * (nn a2))) 48 (by omega) (by omega) (by omega) (by omega))
      refine lv_aload_n hx hb dX7_weigh_75 rfl (lv_at hl 2 rfl) ?_
      refine lv_iload hx hb dX7_weigh_76 (lv_at hl 0 rfl) ?_
      refine call_i (cVt (k := 1076) (av := [.int (ρ65 1078 (152 + 326 * (nn a1) + 66 * (nn a2)))]) (rest := []) B hP hS (d_X7_tell l E ρ76 (ρ65 1078 (152 + 326 * (nn a1) + 66 * (nn a2)))) lk_RX7_68 (hrecv (ci := 7) B hP (hk_lt (c := 7) (show hk 1076 = 7 by decide +kernel) (by decide)) (hcc7 _ _ (show hk 1076 = 7 by decide +kernel)) rfl) rfl rfl hl.1 (Nat.le_of_ble_eq_true rfl) ⟨Nat.le_of_ble_eq_true rfl, Nat.le_of_ble_eq_true rfl⟩ ⟨Nat.le_of_ble_eq_true rfl, Nat.le_of_ble_eq_true rfl⟩ dX7_weigh_78) hS (fun r78 ρ79 H locs q80 hP hS => ?_)
      have hI : RI ρ65 99998 M L X0 ρ79 := by rw [q80]; exact RI_76 hI (by decide)
      exact ret_i B hr hlk hP hS dX7_weigh_81 (PJ_RI hQ hI)
  · skip
    refine lv_if_ne (tgt := 23) hx hb dX7_weigh_14 (by decide) (fun c81 => absurd rfl c81) (fun _ => ?_)
    refine lv_aload_n hx hb dX7_weigh_17 rfl (lv_at hl 0 rfl) ?_
    refine lv_iconst (v := (-1)) hx hb dX7_weigh_18 (by decide) ?_
    refine call_i (cVt (k := 1076) (av := [.int (-1)]) (rest := []) B hP hS (d_X7_refuse1 l E ρ43) lk_RX7_64 (hrecv (ci := 7) B hP (hk_lt (c := 7) (show hk 1076 = 7 by decide +kernel) (by decide)) (hcc7 _ _ (show hk 1076 = 7 by decide +kernel)) rfl) rfl rfl hl.1 (Nat.le_of_ble_eq_true rfl) ⟨Nat.le_of_ble_eq_true rfl, Nat.le_of_ble_eq_true rfl⟩ ⟨Nat.le_of_ble_eq_true rfl, Nat.le_of_ble_eq_true rfl⟩ dX7_weigh_19) hS (fun r82 ρ83 H locs q84 hP hS => ?_)
    have hJ2 := (show PJ r M L ρ83 from by rw [q84]; exact PJ_ref (PJ_RI hQ hI))
    have hQ := hJ2.1
    have hI := PJ_I hJ2
    exact ret_i B hr hlk hP hS dX7_weigh_22 (PJ_RI hQ hI)

set_option maxHeartbeats 4000000 in
set_option maxRecDepth 100000 in
theorem d_X7_cast (l : Launch) (E : hE) (ρ r : Nat → Nat → Int32) (M : Nat → Int32) (L : Nat → Nat) (hJ : PJ r M L ρ) (a1 : Int32) (a2 : Int32) : Met l yX7_cast (.code yX7_cast cX7_cast 4 (some .int) :: gw_all) (rmk 3 120) (cPre E ρ [.ref (E.2.1 + 1076), .int a1, .int a2]) (cI E (fun v ρ1 => PJ r M L ρ1)) 0 0 (hA E) := by
  refine ent (own := RX7) (by decide) rfl (Nat.le_of_ble_eq_true rfl) ?_
  intro p e s m below meth c ls B hr hlk hl hP hS
  have hx := B.1.1
  have hb := B.1.2.1
  have hown := B.1.2.2.2.1
  have hts := B.1.2.2.2.2
  have hl : lv_has ls 4 [(0, .ref (E.2.1 + 1076)), (1, .int a1), (2, .int a2)] := hl
  have hQ := hJ.1
  have hI := PJ_I hJ
  refine lv_aload_n hx hb dX7_cast_0 rfl (lv_at hl 0 rfl) ?_
  refine lv_iconst (v := 0) hx hb dX7_cast_1 (by decide) ?_
  refine put7 B hP hS (show hk 1076 = 7 by decide +kernel) 0 (by decide) mw_1027 rfl rfl rfl (fs7_0 E 1076 _ _) dX7_cast_2 (fun H locs hP hS => ?_)
  obtain ⟨ρ56, e57⟩ : ∃ z, z = up ρ 1076 0 0 := ⟨_, rfl⟩
  rw [← e57] at hP
  have hI : RI ρ 99998 M L X0 ρ56 := by rw [e57]; exact RI_76 hI (by decide)
  refine lv_iload_n hx hb dX7_cast_5 rfl (lv_at hl 2 rfl) ?_
  refine lv_i2l hx hb dX7_cast_6 rfl ?_
  refine lv_lconst (v := 0) hx hb dX7_cast_7 (by decide) ?_
  refine lv_ldc2 (v := 255) hx hb hown (hts _ mw_1203) dX7_cast_8 ?_
  refine call_i (cS (av := [.long a2.toInt64, .long 0, .long 255]) (rest := []) B hP hS (c_in l E ρ56 a2.toInt64 0 255 0 255 (by decide) (by decide)) lk_RX7_71 rfl rfl hl.1 (Nat.le_of_ble_eq_true rfl) ⟨Nat.le_of_ble_eq_true rfl, Nat.le_of_ble_eq_true rfl⟩ ⟨Nat.le_of_ble_eq_true rfl, Nat.le_of_ble_eq_true rfl⟩ dX7_cast_11) hS (fun r58 ρ59 H locs q60 hP hS => ?_)
  obtain ⟨rfl, q60⟩ := q60
  rcases q60 with ⟨rfl, q60⟩ | ⟨rfl, q60⟩
  · skip
    have i61 : iR a2 0 255 := (lR_i _ _ _).mp q60
    refine lv_if_ne (tgt := 23) hx hb dX7_cast_14 (by decide) (fun _ => ?_) (fun c62 => absurd c62 (iR_ne (show iR 1 (1) (1) from ⟨by decide, by decide⟩) (show iR 0 (0) (0) from ⟨by decide, by decide⟩) (by decide)))
    refine lv_aload_n hx hb dX7_cast_23 rfl (lv_at hl 0 rfl) ?_
    refine lv_iload_n hx hb dX7_cast_24 rfl (lv_at hl 1 rfl) ?_
    refine call_i (cVt (k := 1076) (av := [.int a1]) (rest := []) B hP hS (d_X7_isNet l E ρ56 ρ 99998 (by decide) M L X0 a1 hI) lk_RX7_78 (hrecv (ci := 7) B hP (hk_lt (c := 7) (show hk 1076 = 7 by decide +kernel) (by decide)) (hcc7 _ _ (show hk 1076 = 7 by decide +kernel)) rfl) rfl rfl hl.1 (Nat.le_of_ble_eq_true rfl) ⟨Nat.le_of_ble_eq_true rfl, Nat.le_of_ble_eq_true rfl⟩ ⟨Nat.le_of_ble_eq_true rfl, Nat.le_of_ble_eq_true rfl⟩ dX7_cast_25) hS (fun r63 ρ64 H locs q65 hP hS => ?_)
    obtain ⟨rfl, hI, q65⟩ := q65
    rcases q65 with rfl | ⟨rfl, j66, hj66, ej66, i67⟩
    · skip
      refine lv_if_ne (tgt := 38) hx hb dX7_cast_28 (by decide) (fun c68 => absurd rfl c68) (fun _ => ?_)
      refine lv_aload_n hx hb dX7_cast_31 rfl (lv_at hl 0 rfl) ?_
      refine lv_bipush (v := (-2)) hx hb dX7_cast_32 (by decide) ?_
      refine call_i (cVt (k := 1076) (av := [.int (-2)]) (rest := []) B hP hS (d_X7_refuse2 l E ρ56) lk_RX7_64 (hrecv (ci := 7) B hP (hk_lt (c := 7) (show hk 1076 = 7 by decide +kernel) (by decide)) (hcc7 _ _ (show hk 1076 = 7 by decide +kernel)) rfl) rfl rfl hl.1 (Nat.le_of_ble_eq_true rfl) ⟨Nat.le_of_ble_eq_true rfl, Nat.le_of_ble_eq_true rfl⟩ ⟨Nat.le_of_ble_eq_true rfl, Nat.le_of_ble_eq_true rfl⟩ dX7_cast_34) hS (fun r69 ρ70 H locs q71 hP hS => ?_)
      have hJ2 := (show PJ r M L ρ70 from by rw [q71]; exact PJ_ref (PJ_RI hQ hI))
      have hQ := hJ2.1
      have hI := PJ_I hJ2
      exact ret_i B hr hlk hP hS dX7_cast_37 (PJ_RI hQ hI)
    · skip
      have n72 : nn a1 = j66 := nn_u ej66 (by omega)
      have i73 : iR (M (nn a1)) 0 5 := by rw [n72]; exact i67
      refine lv_if_ne (tgt := 38) hx hb dX7_cast_28 (by decide) (fun _ => ?_) (fun c74 => absurd c74 (iR_ne (show iR 1 (1) (1) from ⟨by decide, by decide⟩) (show iR 0 (0) (0) from ⟨by decide, by decide⟩) (by decide)))
      refine lv_iload_n hx hb dX7_cast_38 rfl (lv_at hl 1 rfl) ?_
      refine lv_topi (fun z75 ez75 => ?_)
      obtain rfl : z75 = nI (nn a1) := ez75.trans (nn_eq a1)
      refine call_i (cS (av := [.int (nI (nn a1))]) (rest := []) B hP hS (d_X7_netAt l E ρ56 ρ 99998 (by decide) M L X0 (nn a1) (by omega) (by omega) hI) lk_RX7_75 rfl rfl hl.1 (Nat.le_of_ble_eq_true rfl) ⟨Nat.le_of_ble_eq_true rfl, Nat.le_of_ble_eq_true rfl⟩ ⟨Nat.le_of_ble_eq_true rfl, Nat.le_of_ble_eq_true rfl⟩ dX7_cast_39) hS (fun r76 ρ77 H locs q78 hP hS => ?_)
      obtain ⟨rfl, hI, q78⟩ := q78
      obtain rfl : r76 = nI (42 + 326 * (nn a1)) := q78.trans (congrArg nI (by omega))
      refine lv_istore_n (lv' := [(3, .int (nI (42 + 326 * (nn a1)))), (0, .ref (E.2.1 + 1076)), (1, .int a1), (2, .int a2)]) hx hb dX7_cast_42 rfl hl (by decide) rfl (fun ls hl => ?_)
      refine lv_aload_n hx hb dX7_cast_43 rfl (lv_at hl 1 rfl) ?_
      refine get7 B hP (show hk 1076 = 7 by decide +kernel) 3 (by decide) mw_1030 rfl dX7_cast_44 ?_
      refine lv_iload_n hx hb dX7_cast_47 rfl (lv_at hl 0 rfl) ?_
      refine lv_bipush (v := 9) hx hb dX7_cast_48 (by decide) ?_
      refine lv_iadd hx hb dX7_cast_50 ?_
      refine lv_topi (fun z79 ez79 => ?_)
      obtain rfl : z79 = (nI (51 + 326 * (nn a1))) := ez79.trans (by rw [show (nI (42 + 326 * (nn a1))) = nI (42 + 326 * (nn a1)) from rfl, show 9 = nI 9 from rfl, nI_add] <;> exact congrArg nI (by omega))
      refine aldn (n := 695) (j := (51 + 326 * (nn a1))) B hP (show hk 1078 = 8 by decide +kernel) (show hlen 1078 = 695 by decide +kernel) rfl (by omega) (by decide) dX7_cast_51 ?_
      have i80 : iR (ρ56 1078 (51 + 326 * (nn a1))) (0) (4) := g_ncast (n0 := (nn a1)) (j := (51 + 326 * (nn a1))) hI (by omega) (by omega)
      obtain ⟨j81, lj81, uj81, ej81⟩ := iR_nat (a := 0) (b := 4) i80
      refine lv_topi (fun z82 ez82 => ?_)
      obtain rfl : z82 = nI j81 := ez82.trans ej81
      refine lv_iconst (v := 4) hx hb dX7_cast_52 (by decide) ?_
      refine lv_icmp_ne (tgt := 63) hx hb dX7_cast_53 (by decide) (fun c83 => ?_) (fun c83 => ?_)
      · skip
        have n84 := mt (nI_eq (a := j81) (b := 4) (by omega) (by omega)).mpr (show ¬ (nI j81 = nI 4) from c83)
        refine lv_aload_n hx hb dX7_cast_63 rfl (lv_at hl 1 rfl) ?_
        refine lv_bipush (v := 11) hx hb dX7_cast_64 (by decide) ?_
        refine call_v (cVt (k := 1076) (av := [.int 11]) (rest := []) B hP hS (d_X7_remember l E ρ56 r M L (PJ_RI hQ hI) ρ56 rfl 11) lk_RX7_118 (hrecv (ci := 7) B hP (hk_lt (c := 7) (show hk 1076 = 7 by decide +kernel) (by decide)) (hcc7 _ _ (show hk 1076 = 7 by decide +kernel)) rfl) rfl rfl hl.1 (Nat.le_of_ble_eq_true rfl) ⟨Nat.le_of_ble_eq_true rfl, Nat.le_of_ble_eq_true rfl⟩ ⟨Nat.le_of_ble_eq_true rfl, Nat.le_of_ble_eq_true rfl⟩ dX7_cast_66) hS (fun ρ86 H locs q87 hP hS => ?_)
        obtain ⟨hJ2, hrow88⟩ := q87
        have hJ2 := hJ2
        have hQ := hJ2.1
        have hI := PJ_I hJ2
        refine lv_aload_n hx hb dX7_cast_69 rfl (lv_at hl 1 rfl) ?_
        refine get7 B hP (show hk 1076 = 7 by decide +kernel) 3 (by decide) mw_1030 rfl dX7_cast_70 ?_
        refine lv_iload_n hx hb dX7_cast_73 rfl (lv_at hl 0 rfl) ?_
        refine lv_bipush (v := 10) hx hb dX7_cast_74 (by decide) ?_
        refine lv_iadd hx hb dX7_cast_76 ?_
        refine lv_topi (fun z89 ez89 => ?_)
        obtain rfl : z89 = (nI (52 + 326 * (nn a1))) := ez89.trans (by rw [show (nI (42 + 326 * (nn a1))) = nI (42 + 326 * (nn a1)) from rfl, show 10 = nI 10 from rfl, nI_add] <;> exact congrArg nI (by omega))
        refine lv_aload_n hx hb dX7_cast_77 rfl (lv_at hl 1 rfl) ?_
        refine get7 B hP (show hk 1076 = 7 by decide +kernel) 3 (by decide) mw_1030 rfl dX7_cast_78 ?_
        refine lv_iload_n hx hb dX7_cast_81 rfl (lv_at hl 0 rfl) ?_
        refine lv_bipush (v := 9) hx hb dX7_cast_82 (by decide) ?_
        refine lv_iadd hx hb dX7_cast_84 ?_
        refine lv_topi (fun z90 ez90 => ?_)
        obtain rfl : z90 = (nI (51 + 326 * (nn a1))) := ez90.trans (by rw [show (nI (42 + 326 * (nn a1))) = nI (42 + 326 * (nn a1)) from rfl, show 9 = nI 9 from rfl, nI_add] <;> exact congrArg nI (by omega))
        refine aldf (n := 695) (j := (51 + 326 * (nn a1))) (v := (nI j81)) B hP (show hk 1078 = 8 by decide +kernel) (show hlen 1078 = 695 by decide +kernel) rfl (by omega) (by decide) ((congrFun hrow88 _).trans ej81) dX7_cast_85 ?_
        refine lv_iadd hx hb dX7_cast_86 ?_
        refine lv_topi (fun z91 ez91 => ?_)
        obtain rfl : z91 = (nI (52 + 326 * (nn a1) + j81)) := ez91.trans (by rw [show (nI (52 + 326 * (nn a1))) = nI (52 + 326 * (nn a1)) from rfl, show (nI j81) = nI j81 from rfl, nI_add] <;> exact congrArg nI (by omega))
        refine lv_iload_n hx hb dX7_cast_87 rfl (lv_at hl 3 rfl) ?_
        have := nn_r (x := a2) (a := 0) (b := 255) i61 (by decide)
        refine lv_topi (fun z92 ez92 => ?_)
        obtain rfl : z92 = nI (nn a2) := ez92.trans (nn_eq a2)
        refine astn (n := 695) (j := (52 + 326 * (nn a1) + j81)) B hP hS (show hk 1078 = 8 by decide +kernel) (show hlen 1078 = 695 by decide +kernel) rfl (by omega) (by decide) dX7_cast_88 (fun H locs hP hS => ?_)
        obtain ⟨ρ93, e94⟩ : ∃ z, z = up ρ86 1078 (52 + 326 * (nn a1) + j81) (nI (nn a2)) := ⟨_, rfl⟩
        rw [← e94] at hP
        have hI : RI ρ86 99998 M L X0 ρ93 := by rw [e94]; exact RI_up hI (ok_net (n0 := (nn a1)) (j := (52 + 326 * (nn a1) + j81)) (10 + j81) (by omega) (by omega) (by omega))
        refine lv_aload_n hx hb dX7_cast_89 rfl (lv_at hl 1 rfl) ?_
        refine get7 B hP (show hk 1076 = 7 by decide +kernel) 3 (by decide) mw_1030 rfl dX7_cast_90 ?_
        refine lv_iload_n hx hb dX7_cast_93 rfl (lv_at hl 0 rfl) ?_
        refine lv_bipush (v := 9) hx hb dX7_cast_94 (by decide) ?_
        refine lv_iadd hx hb dX7_cast_96 ?_
        refine lv_topi (fun z95 ez95 => ?_)
        obtain rfl : z95 = (nI (51 + 326 * (nn a1))) := ez95.trans (by rw [show (nI (42 + 326 * (nn a1))) = nI (42 + 326 * (nn a1)) from rfl, show 9 = nI 9 from rfl, nI_add] <;> exact congrArg nI (by omega))
        refine lv_dup2_11 hx hb dX7_cast_97 rfl rfl ?_
        refine aldf (n := 695) (j := (51 + 326 * (nn a1))) (v := (nI j81)) B hP (show hk 1078 = 8 by decide +kernel) (show hlen 1078 = 695 by decide +kernel) rfl (by omega) (by decide) (by rw [e94]; exact up_get_ne (Or.inr (by omega)) ((congrFun hrow88 _).trans ej81)) dX7_cast_98 ?_
        refine lv_iconst (v := 1) hx hb dX7_cast_99 (by decide) ?_
        refine lv_iadd hx hb dX7_cast_100 ?_
        refine lv_topi (fun z96 ez96 => ?_)
        obtain rfl : z96 = (nI (1 + j81)) := ez96.trans (by rw [show (nI j81) = nI j81 from rfl, show 1 = nI 1 from rfl, nI_add] <;> exact congrArg nI (by omega))
        refine astn (n := 695) (j := (51 + 326 * (nn a1))) B hP hS (show hk 1078 = 8 by decide +kernel) (show hlen 1078 = 695 by decide +kernel) rfl (by omega) (by decide) dX7_cast_101 (fun H locs hP hS => ?_)
        obtain ⟨ρ97, e98⟩ : ∃ z, z = up ρ93 1078 (51 + 326 * (nn a1)) (nI (1 + j81)) := ⟨_, rfl⟩
        rw [← e98] at hP
        have hI : RI ρ86 99998 M L X0 ρ97 := by rw [e98]; exact RI_up hI (ok_ncast (n0 := (nn a1)) (j := (51 + 326 * (nn a1))) (by omega) (iR_w (a := 1) (b := 4) (nI_iR (j := (1 + j81)) (a := 1) (b := 4) (by omega) (by omega) (by omega)) (by decide) (by decide)) (by omega))
        refine lv_aload_n hx hb dX7_cast_102 rfl (lv_at hl 1 rfl) ?_
        refine lv_aload_n hx hb dX7_cast_103 rfl (lv_at hl 1 rfl) ?_
        refine get7 B hP (show hk 1076 = 7 by decide +kernel) 3 (by decide) mw_1030 rfl dX7_cast_104 ?_
        refine lv_iload_n hx hb dX7_cast_107 rfl (lv_at hl 0 rfl) ?_
        refine lv_bipush (v := 9) hx hb dX7_cast_108 (by decide) ?_
        refine lv_iadd hx hb dX7_cast_110 ?_
        refine lv_topi (fun z99 ez99 => ?_)
        obtain rfl : z99 = (nI (51 + 326 * (nn a1))) := ez99.trans (by rw [show (nI (42 + 326 * (nn a1))) = nI (42 + 326 * (nn a1)) from rfl, show 9 = nI 9 from rfl, nI_add] <;> exact congrArg nI (by omega))
        refine aldf (n := 695) (j := (51 + 326 * (nn a1))) (v := (nI (1 + j81))) B hP (show hk 1078 = 8 by decide +kernel) (show hlen 1078 = 695 by decide +kernel) rfl (by omega) (by decide) (by rw [e98]; exact up_get_at) dX7_cast_111 ?_
        refine call_i (cVt (k := 1076) (av := [.int (nI (1 + j81))]) (rest := []) B hP hS (d_X7_tell l E ρ97 (nI (1 + j81))) lk_RX7_68 (hrecv (ci := 7) B hP (hk_lt (c := 7) (show hk 1076 = 7 by decide +kernel) (by decide)) (hcc7 _ _ (show hk 1076 = 7 by decide +kernel)) rfl) rfl rfl hl.1 (Nat.le_of_ble_eq_true rfl) ⟨Nat.le_of_ble_eq_true rfl, Nat.le_of_ble_eq_true rfl⟩ ⟨Nat.le_of_ble_eq_true rfl, Nat.le_of_ble_eq_true rfl⟩ dX7_cast_112) hS (fun r100 ρ101 H locs q102 hP hS => ?_)
        have hI : RI ρ86 99998 M L X0 ρ101 := by rw [q102]; exact RI_76 hI (by decide)
        exact ret_i B hr hlk hP hS dX7_cast_115 (PJ_RI hQ hI)
      · skip
        have n103 := (nI_eq (a := j81) (b := 4) (by omega) (by omega)).mp (show (nI j81 = nI 4) from c83)
        refine lv_aload_n hx hb dX7_cast_56 rfl (lv_at hl 1 rfl) ?_
        refine lv_bipush (v := (-5)) hx hb dX7_cast_57 (by decide) ?_
        refine call_i (cVt (k := 1076) (av := [.int (-5)]) (rest := []) B hP hS (d_X7_refuse5 l E ρ56) lk_RX7_64 (hrecv (ci := 7) B hP (hk_lt (c := 7) (show hk 1076 = 7 by decide +kernel) (by decide)) (hcc7 _ _ (show hk 1076 = 7 by decide +kernel)) rfl) rfl rfl hl.1 (Nat.le_of_ble_eq_true rfl) ⟨Nat.le_of_ble_eq_true rfl, Nat.le_of_ble_eq_true rfl⟩ ⟨Nat.le_of_ble_eq_true rfl, Nat.le_of_ble_eq_true rfl⟩ dX7_cast_59) hS (fun r104 ρ105 H locs q106 hP hS => ?_)
        have hJ2 := (show PJ r M L ρ105 from by rw [q106]; exact PJ_ref (PJ_RI hQ hI))
        have hQ := hJ2.1
        have hI := PJ_I hJ2
        exact ret_i B hr hlk hP hS dX7_cast_62 (PJ_RI hQ hI)
  · skip
    refine lv_if_ne (tgt := 23) hx hb dX7_cast_14 (by decide) (fun c107 => absurd rfl c107) (fun _ => ?_)
    refine lv_aload_n hx hb dX7_cast_17 rfl (lv_at hl 0 rfl) ?_
    refine lv_iconst (v := (-1)) hx hb dX7_cast_18 (by decide) ?_
    refine call_i (cVt (k := 1076) (av := [.int (-1)]) (rest := []) B hP hS (d_X7_refuse1 l E ρ56) lk_RX7_64 (hrecv (ci := 7) B hP (hk_lt (c := 7) (show hk 1076 = 7 by decide +kernel) (by decide)) (hcc7 _ _ (show hk 1076 = 7 by decide +kernel)) rfl) rfl rfl hl.1 (Nat.le_of_ble_eq_true rfl) ⟨Nat.le_of_ble_eq_true rfl, Nat.le_of_ble_eq_true rfl⟩ ⟨Nat.le_of_ble_eq_true rfl, Nat.le_of_ble_eq_true rfl⟩ dX7_cast_19) hS (fun r108 ρ109 H locs q110 hP hS => ?_)
    have hJ2 := (show PJ r M L ρ109 from by rw [q110]; exact PJ_ref (PJ_RI hQ hI))
    have hQ := hJ2.1
    have hI := PJ_I hJ2
    exact ret_i B hr hlk hP hS dX7_cast_22 (PJ_RI hQ hI)

set_option maxHeartbeats 4000000 in
set_option maxRecDepth 100000 in
theorem d_X7_reserve (l : Launch) (E : hE) (ρ r : Nat → Nat → Int32) (M : Nat → Int32) (L : Nat → Nat) (hJ : PJ r M L ρ) (a1 : Int32) (a2 : Int32) (a3 : Int32) (a4 : Int32) (a5 : Int32) : Met l yX7_reserve (.code yX7_reserve cX7_reserve 8 (some .int) :: gw_all) (rmk 4 160) (cPre E ρ [.ref (E.2.1 + 1076), .int a1, .int a2, .int a3, .int a4, .int a5]) (cI E (fun v ρ1 => PJ r M L ρ1)) 0 0 (hA E) := by
  refine ent (own := RX7) (by decide) rfl (Nat.le_of_ble_eq_true rfl) ?_
  intro p e s m below meth c ls B hr hlk hl hP hS
  have hx := B.1.1
  have hb := B.1.2.1
  have hown := B.1.2.2.2.1
  have hts := B.1.2.2.2.2
  have hl : lv_has ls 8 [(0, .ref (E.2.1 + 1076)), (1, .int a1), (2, .int a2), (3, .int a3), (4, .int a4), (5, .int a5)] := hl
  have hQ := hJ.1
  have hI := PJ_I hJ
  have b150_0 : ∀ (ls : Array Slot) (ρ : Nat → Nat → Int32) (H : Heap) (locs : List Loc) (j150_7 : Nat), lv_has ls 8 [(0, .ref (E.2.1 + 1076)), (6, .int (nI (104 + 326 * (nn a1) + 66 * (nn a2)))), (7, .int (nI j150_7))] → WP E ρ H → va_S (hA E) s.heap H locs → PJ r M L ρ → 0 ≤ j150_7 → j150_7 ≤ 1 → iR (M (nn a1)) (0) (5) → iR a1 (0) (1) → iR a2 (0) (3) → iR a3 (1) (2147483647) → 1 ≤ (L (nn a1)) → (L (nn a1)) ≤ 4 → 0 ≤ (nn a1) → (nn a1) ≤ 1 → 0 ≤ (nn a2) → (nn a2) ≤ 3 → (nn a2) + 1 ≤ L (nn a1) → j150_7 + 0 ≤ L (nn a1) → W p l e (rmk 4 160) s m ([.ref (E.2.1 + 1076), .int a1, .int a2, .int a3, .int a4, .int a5] : List Value).toArray below meth c H locs 0 0 (MQ below (cI E (fun v ρ1 => PJ r M L ρ1)) ([.ref (E.2.1 + 1076), .int a1, .int a2, .int a3, .int a4, .int a5] : List Value).toArray s 0 0 (hA E)) (F0 m 150 ls [.int a5, .int (nI (137 + 326 * (nn a1) + 66 * (nn a2))), .ref (E.2.1 + 1078)]) := by
    intro ls ρ H locs j150_7 hl hP hS hI lj150_7 uj150_7 f_M__nn_a1__ fa1 fa2 fa3 tl_L__nn_a1__ tu_L__nn_a1__ tl_nn_a1_ tu_nn_a1_ tl_nn_a2_ tu_nn_a2_ hr150_0 hr150_1
    have hQ := hI.1
    have hI := PJ_I hI
    refine astn (n := 695) (j := (137 + 326 * (nn a1) + 66 * (nn a2))) B hP hS (show hk 1078 = 8 by decide +kernel) (show hlen 1078 = 695 by decide +kernel) rfl (by omega) (by decide) dX7_reserve_150 (fun H locs hP hS => ?_)
    obtain ⟨ρ107, e108⟩ : ∃ z, z = up ρ 1078 (137 + 326 * (nn a1) + 66 * (nn a2)) a5 := ⟨_, rfl⟩
    rw [← e108] at hP
    have hI : RI ρ 99998 M L X0 ρ107 := by rw [e108]; exact RI_up hI (ok_link (n0 := (nn a1)) (l0 := (nn a2)) (j := (137 + 326 * (nn a1) + 66 * (nn a2))) 33 (by omega) (by omega) (by omega) (by omega))
    refine lv_aload_n hx hb dX7_reserve_151 rfl (lv_at hl 0 rfl) ?_
    refine get7 B hP (show hk 1076 = 7 by decide +kernel) 3 (by decide) mw_1030 rfl dX7_reserve_152 ?_
    refine lv_iload hx hb dX7_reserve_155 (lv_at hl 1 rfl) ?_
    refine lv_bipush (v := 34) hx hb dX7_reserve_157 (by decide) ?_
    refine lv_iadd hx hb dX7_reserve_159 ?_
    refine lv_topi (fun z109 ez109 => ?_)
    obtain rfl : z109 = (nI (138 + 326 * (nn a1) + 66 * (nn a2))) := ez109.trans (by rw [show (nI (104 + 326 * (nn a1) + 66 * (nn a2))) = nI (104 + 326 * (nn a1) + 66 * (nn a2)) from rfl, show 34 = nI 34 from rfl, nI_add] <;> exact congrArg nI (by omega))
    refine lv_iconst (v := 0) hx hb dX7_reserve_160 (by decide) ?_
    refine astn (n := 695) (j := (138 + 326 * (nn a1) + 66 * (nn a2))) B hP hS (show hk 1078 = 8 by decide +kernel) (show hlen 1078 = 695 by decide +kernel) rfl (by omega) (by decide) dX7_reserve_161 (fun H locs hP hS => ?_)
    obtain ⟨ρ110, e111⟩ : ∃ z, z = up ρ107 1078 (138 + 326 * (nn a1) + 66 * (nn a2)) 0 := ⟨_, rfl⟩
    rw [← e111] at hP
    have hI : RI ρ 99998 M L X0 ρ110 := by rw [e111]; exact RI_up hI (ok_link (n0 := (nn a1)) (l0 := (nn a2)) (j := (138 + 326 * (nn a1) + 66 * (nn a2))) 34 (by omega) (by omega) (by omega) (by omega))
    refine lv_aload_n hx hb dX7_reserve_162 rfl (lv_at hl 0 rfl) ?_
    refine get7 B hP (show hk 1076 = 7 by decide +kernel) 3 (by decide) mw_1030 rfl dX7_reserve_163 ?_
    refine lv_iload hx hb dX7_reserve_166 (lv_at hl 1 rfl) ?_
    refine lv_bipush (v := 35) hx hb dX7_reserve_168 (by decide) ?_
    refine lv_iadd hx hb dX7_reserve_170 ?_
    refine lv_topi (fun z112 ez112 => ?_)
    obtain rfl : z112 = (nI (139 + 326 * (nn a1) + 66 * (nn a2))) := ez112.trans (by rw [show (nI (104 + 326 * (nn a1) + 66 * (nn a2))) = nI (104 + 326 * (nn a1) + 66 * (nn a2)) from rfl, show 35 = nI 35 from rfl, nI_add] <;> exact congrArg nI (by omega))
    refine lv_iconst (v := 0) hx hb dX7_reserve_171 (by decide) ?_
    refine astn (n := 695) (j := (139 + 326 * (nn a1) + 66 * (nn a2))) B hP hS (show hk 1078 = 8 by decide +kernel) (show hlen 1078 = 695 by decide +kernel) rfl (by omega) (by decide) dX7_reserve_172 (fun H locs hP hS => ?_)
    obtain ⟨ρ113, e114⟩ : ∃ z, z = up ρ110 1078 (139 + 326 * (nn a1) + 66 * (nn a2)) 0 := ⟨_, rfl⟩
    rw [← e114] at hP
    have hI : RI ρ 99998 M L X0 ρ113 := by rw [e114]; exact RI_up hI (ok_link (n0 := (nn a1)) (l0 := (nn a2)) (j := (139 + 326 * (nn a1) + 66 * (nn a2))) 35 (by omega) (by omega) (by omega) (by omega))
    refine lv_aload_n hx hb dX7_reserve_173 rfl (lv_at hl 0 rfl) ?_
    refine get7 B hP (show hk 1076 = 7 by decide +kernel) 3 (by decide) mw_1030 rfl dX7_reserve_174 ?_
    refine lv_iload hx hb dX7_reserve_177 (lv_at hl 1 rfl) ?_
    refine lv_bipush (v := 36) hx hb dX7_reserve_179 (by decide) ?_
    refine lv_iadd hx hb dX7_reserve_181 ?_
    refine lv_topi (fun z115 ez115 => ?_)
    obtain rfl : z115 = (nI (140 + 326 * (nn a1) + 66 * (nn a2))) := ez115.trans (by rw [show (nI (104 + 326 * (nn a1) + 66 * (nn a2))) = nI (104 + 326 * (nn a1) + 66 * (nn a2)) from rfl, show 36 = nI 36 from rfl, nI_add] <;> exact congrArg nI (by omega))
    refine lv_iconst (v := 0) hx hb dX7_reserve_182 (by decide) ?_
    refine astn (n := 695) (j := (140 + 326 * (nn a1) + 66 * (nn a2))) B hP hS (show hk 1078 = 8 by decide +kernel) (show hlen 1078 = 695 by decide +kernel) rfl (by omega) (by decide) dX7_reserve_183 (fun H locs hP hS => ?_)
    obtain ⟨ρ116, e117⟩ : ∃ z, z = up ρ113 1078 (140 + 326 * (nn a1) + 66 * (nn a2)) 0 := ⟨_, rfl⟩
    rw [← e117] at hP
    have hI : RI ρ 99998 M L X0 ρ116 := by rw [e117]; exact RI_up hI (ok_link (n0 := (nn a1)) (l0 := (nn a2)) (j := (140 + 326 * (nn a1) + 66 * (nn a2))) 36 (by omega) (by omega) (by omega) (by omega))
    refine lv_aload_n hx hb dX7_reserve_184 rfl (lv_at hl 0 rfl) ?_
    refine lv_iload hx hb dX7_reserve_185 (lv_at hl 2 rfl) ?_
    refine call_i (cVt (k := 1076) (av := [.int (nI j150_7)]) (rest := []) B hP hS (d_X7_tell l E ρ116 (nI j150_7)) lk_RX7_68 (hrecv (ci := 7) B hP (hk_lt (c := 7) (show hk 1076 = 7 by decide +kernel) (by decide)) (hcc7 _ _ (show hk 1076 = 7 by decide +kernel)) rfl) rfl rfl hl.1 (Nat.le_of_ble_eq_true rfl) ⟨Nat.le_of_ble_eq_true rfl, Nat.le_of_ble_eq_true rfl⟩ ⟨Nat.le_of_ble_eq_true rfl, Nat.le_of_ble_eq_true rfl⟩ dX7_reserve_187) hS (fun r118 ρ119 H locs q120 hP hS => ?_)
    have hI : RI ρ 99998 M L X0 ρ119 := by rw [q120]; exact RI_76 hI (by decide)
    exact ret_i B hr hlk hP hS dX7_reserve_190 (PJ_RI hQ hI)
  have b150_1 : ∀ (ls : Array Slot) (ρ : Nat → Nat → Int32) (H : Heap) (locs : List Loc) (j150_7 : Nat), lv_has ls 8 [(0, .ref (E.2.1 + 1076)), (6, .int (nI (104 + 326 * (nn a1) + 66 * (nn a2)))), (7, .int (nI j150_7))] → WP E ρ H → va_S (hA E) s.heap H locs → PJ r M L ρ → 0 ≤ j150_7 → j150_7 ≤ 1 → iR (M (nn a1)) (0) (5) → iR a1 (0) (1) → iR a2 (0) (3) → iR a3 (-2147483648) (0) → 1 ≤ (L (nn a1)) → (L (nn a1)) ≤ 4 → 0 ≤ (nn a1) → (nn a1) ≤ 1 → 0 ≤ (nn a2) → (nn a2) ≤ 3 → (nn a2) + 1 ≤ L (nn a1) → j150_7 + 0 ≤ L (nn a1) → W p l e (rmk 4 160) s m ([.ref (E.2.1 + 1076), .int a1, .int a2, .int a3, .int a4, .int a5] : List Value).toArray below meth c H locs 0 0 (MQ below (cI E (fun v ρ1 => PJ r M L ρ1)) ([.ref (E.2.1 + 1076), .int a1, .int a2, .int a3, .int a4, .int a5] : List Value).toArray s 0 0 (hA E)) (F0 m 150 ls [.int 0, .int (nI (137 + 326 * (nn a1) + 66 * (nn a2))), .ref (E.2.1 + 1078)]) := by
    intro ls ρ H locs j150_7 hl hP hS hI lj150_7 uj150_7 f_M__nn_a1__ fa1 fa2 fa3 tl_L__nn_a1__ tu_L__nn_a1__ tl_nn_a1_ tu_nn_a1_ tl_nn_a2_ tu_nn_a2_ hr150_0 hr150_1
    have hQ := hI.1
    have hI := PJ_I hI
    refine astn (n := 695) (j := (137 + 326 * (nn a1) + 66 * (nn a2))) B hP hS (show hk 1078 = 8 by decide +kernel) (show hlen 1078 = 695 by decide +kernel) rfl (by omega) (by decide) dX7_reserve_150 (fun H locs hP hS => ?_)
    obtain ⟨ρ121, e122⟩ : ∃ z, z = up ρ 1078 (137 + 326 * (nn a1) + 66 * (nn a2)) 0 := ⟨_, rfl⟩
    rw [← e122] at hP
    have hI : RI ρ 99998 M L X0 ρ121 := by rw [e122]; exact RI_up hI (ok_link (n0 := (nn a1)) (l0 := (nn a2)) (j := (137 + 326 * (nn a1) + 66 * (nn a2))) 33 (by omega) (by omega) (by omega) (by omega))
    refine lv_aload_n hx hb dX7_reserve_151 rfl (lv_at hl 0 rfl) ?_
    refine get7 B hP (show hk 1076 = 7 by decide +kernel) 3 (by decide) mw_1030 rfl dX7_reserve_152 ?_
    refine lv_iload hx hb dX7_reserve_155 (lv_at hl 1 rfl) ?_
    refine lv_bipush (v := 34) hx hb dX7_reserve_157 (by decide) ?_
    refine lv_iadd hx hb dX7_reserve_159 ?_
    refine lv_topi (fun z123 ez123 => ?_)
    obtain rfl : z123 = (nI (138 + 326 * (nn a1) + 66 * (nn a2))) := ez123.trans (by rw [show (nI (104 + 326 * (nn a1) + 66 * (nn a2))) = nI (104 + 326 * (nn a1) + 66 * (nn a2)) from rfl, show 34 = nI 34 from rfl, nI_add] <;> exact congrArg nI (by omega))
    refine lv_iconst (v := 0) hx hb dX7_reserve_160 (by decide) ?_
    refine astn (n := 695) (j := (138 + 326 * (nn a1) + 66 * (nn a2))) B hP hS (show hk 1078 = 8 by decide +kernel) (show hlen 1078 = 695 by decide +kernel) rfl (by omega) (by decide) dX7_reserve_161 (fun H locs hP hS => ?_)
    obtain ⟨ρ124, e125⟩ : ∃ z, z = up ρ121 1078 (138 + 326 * (nn a1) + 66 * (nn a2)) 0 := ⟨_, rfl⟩
    rw [← e125] at hP
    have hI : RI ρ 99998 M L X0 ρ124 := by rw [e125]; exact RI_up hI (ok_link (n0 := (nn a1)) (l0 := (nn a2)) (j := (138 + 326 * (nn a1) + 66 * (nn a2))) 34 (by omega) (by omega) (by omega) (by omega))
    refine lv_aload_n hx hb dX7_reserve_162 rfl (lv_at hl 0 rfl) ?_
    refine get7 B hP (show hk 1076 = 7 by decide +kernel) 3 (by decide) mw_1030 rfl dX7_reserve_163 ?_
    refine lv_iload hx hb dX7_reserve_166 (lv_at hl 1 rfl) ?_
    refine lv_bipush (v := 35) hx hb dX7_reserve_168 (by decide) ?_
    refine lv_iadd hx hb dX7_reserve_170 ?_
    refine lv_topi (fun z126 ez126 => ?_)
    obtain rfl : z126 = (nI (139 + 326 * (nn a1) + 66 * (nn a2))) := ez126.trans (by rw [show (nI (104 + 326 * (nn a1) + 66 * (nn a2))) = nI (104 + 326 * (nn a1) + 66 * (nn a2)) from rfl, show 35 = nI 35 from rfl, nI_add] <;> exact congrArg nI (by omega))
    refine lv_iconst (v := 0) hx hb dX7_reserve_171 (by decide) ?_
    refine astn (n := 695) (j := (139 + 326 * (nn a1) + 66 * (nn a2))) B hP hS (show hk 1078 = 8 by decide +kernel) (show hlen 1078 = 695 by decide +kernel) rfl (by omega) (by decide) dX7_reserve_172 (fun H locs hP hS => ?_)
    obtain ⟨ρ127, e128⟩ : ∃ z, z = up ρ124 1078 (139 + 326 * (nn a1) + 66 * (nn a2)) 0 := ⟨_, rfl⟩
    rw [← e128] at hP
    have hI : RI ρ 99998 M L X0 ρ127 := by rw [e128]; exact RI_up hI (ok_link (n0 := (nn a1)) (l0 := (nn a2)) (j := (139 + 326 * (nn a1) + 66 * (nn a2))) 35 (by omega) (by omega) (by omega) (by omega))
    refine lv_aload_n hx hb dX7_reserve_173 rfl (lv_at hl 0 rfl) ?_
    refine get7 B hP (show hk 1076 = 7 by decide +kernel) 3 (by decide) mw_1030 rfl dX7_reserve_174 ?_
    refine lv_iload hx hb dX7_reserve_177 (lv_at hl 1 rfl) ?_
    refine lv_bipush (v := 36) hx hb dX7_reserve_179 (by decide) ?_
    refine lv_iadd hx hb dX7_reserve_181 ?_
    refine lv_topi (fun z129 ez129 => ?_)
    obtain rfl : z129 = (nI (140 + 326 * (nn a1) + 66 * (nn a2))) := ez129.trans (by rw [show (nI (104 + 326 * (nn a1) + 66 * (nn a2))) = nI (104 + 326 * (nn a1) + 66 * (nn a2)) from rfl, show 36 = nI 36 from rfl, nI_add] <;> exact congrArg nI (by omega))
    refine lv_iconst (v := 0) hx hb dX7_reserve_182 (by decide) ?_
    refine astn (n := 695) (j := (140 + 326 * (nn a1) + 66 * (nn a2))) B hP hS (show hk 1078 = 8 by decide +kernel) (show hlen 1078 = 695 by decide +kernel) rfl (by omega) (by decide) dX7_reserve_183 (fun H locs hP hS => ?_)
    obtain ⟨ρ130, e131⟩ : ∃ z, z = up ρ127 1078 (140 + 326 * (nn a1) + 66 * (nn a2)) 0 := ⟨_, rfl⟩
    rw [← e131] at hP
    have hI : RI ρ 99998 M L X0 ρ130 := by rw [e131]; exact RI_up hI (ok_link (n0 := (nn a1)) (l0 := (nn a2)) (j := (140 + 326 * (nn a1) + 66 * (nn a2))) 36 (by omega) (by omega) (by omega) (by omega))
    refine lv_aload_n hx hb dX7_reserve_184 rfl (lv_at hl 0 rfl) ?_
    refine lv_iload hx hb dX7_reserve_185 (lv_at hl 2 rfl) ?_
    refine call_i (cVt (k := 1076) (av := [.int (nI j150_7)]) (rest := []) B hP hS (d_X7_tell l E ρ130 (nI j150_7)) lk_RX7_68 (hrecv (ci := 7) B hP (hk_lt (c := 7) (show hk 1076 = 7 by decide +kernel) (by decide)) (hcc7 _ _ (show hk 1076 = 7 by decide +kernel)) rfl) rfl rfl hl.1 (Nat.le_of_ble_eq_true rfl) ⟨Nat.le_of_ble_eq_true rfl, Nat.le_of_ble_eq_true rfl⟩ ⟨Nat.le_of_ble_eq_true rfl, Nat.le_of_ble_eq_true rfl⟩ dX7_reserve_187) hS (fun r132 ρ133 H locs q134 hP hS => ?_)
    have hI : RI ρ 99998 M L X0 ρ133 := by rw [q134]; exact RI_76 hI (by decide)
    exact ret_i B hr hlk hP hS dX7_reserve_190 (PJ_RI hQ hI)
  have b130_0 : ∀ (ls : Array Slot) (ρ : Nat → Nat → Int32) (H : Heap) (locs : List Loc) (j130_7 : Nat), lv_has ls 8 [(0, .ref (E.2.1 + 1076)), (3, .int a3), (5, .int a5), (6, .int (nI (104 + 326 * (nn a1) + 66 * (nn a2)))), (7, .int (nI j130_7))] → WP E ρ H → va_S (hA E) s.heap H locs → PJ r M L ρ → 0 ≤ j130_7 → j130_7 ≤ 1 → iR (M (nn a1)) (0) (5) → iR a1 (0) (1) → iR a2 (0) (3) → iR a3 (1) (2147483647) → 1 ≤ (L (nn a1)) → (L (nn a1)) ≤ 4 → 0 ≤ (nn a1) → (nn a1) ≤ 1 → 0 ≤ (nn a2) → (nn a2) ≤ 3 → (nn a2) + 1 ≤ L (nn a1) → j130_7 + 0 ≤ L (nn a1) → W p l e (rmk 4 160) s m ([.ref (E.2.1 + 1076), .int a1, .int a2, .int a3, .int a4, .int a5] : List Value).toArray below meth c H locs 0 0 (MQ below (cI E (fun v ρ1 => PJ r M L ρ1)) ([.ref (E.2.1 + 1076), .int a1, .int a2, .int a3, .int a4, .int a5] : List Value).toArray s 0 0 (hA E)) (F0 m 130 ls [.int a4, .int (nI (136 + 326 * (nn a1) + 66 * (nn a2))), .ref (E.2.1 + 1078)]) := by
    intro ls ρ H locs j130_7 hl hP hS hI lj130_7 uj130_7 f_M__nn_a1__ fa1 fa2 fa3 tl_L__nn_a1__ tu_L__nn_a1__ tl_nn_a1_ tu_nn_a1_ tl_nn_a2_ tu_nn_a2_ hr130_0 hr130_1
    have hQ := hI.1
    have hI := PJ_I hI
    refine astn (n := 695) (j := (136 + 326 * (nn a1) + 66 * (nn a2))) B hP hS (show hk 1078 = 8 by decide +kernel) (show hlen 1078 = 695 by decide +kernel) rfl (by omega) (by decide) dX7_reserve_130 (fun H locs hP hS => ?_)
    obtain ⟨ρ135, e136⟩ : ∃ z, z = up ρ 1078 (136 + 326 * (nn a1) + 66 * (nn a2)) a4 := ⟨_, rfl⟩
    rw [← e136] at hP
    have hI : RI ρ 99998 M L X0 ρ135 := by rw [e136]; exact RI_up hI (ok_link (n0 := (nn a1)) (l0 := (nn a2)) (j := (136 + 326 * (nn a1) + 66 * (nn a2))) 32 (by omega) (by omega) (by omega) (by omega))
    refine lv_aload_n hx hb dX7_reserve_131 rfl (lv_at hl 0 rfl) ?_
    refine get7 B hP (show hk 1076 = 7 by decide +kernel) 3 (by decide) mw_1030 rfl dX7_reserve_132 ?_
    refine lv_iload hx hb dX7_reserve_135 (lv_at hl 3 rfl) ?_
    refine lv_bipush (v := 33) hx hb dX7_reserve_137 (by decide) ?_
    refine lv_iadd hx hb dX7_reserve_139 ?_
    refine lv_topi (fun z137 ez137 => ?_)
    obtain rfl : z137 = (nI (137 + 326 * (nn a1) + 66 * (nn a2))) := ez137.trans (by rw [show (nI (104 + 326 * (nn a1) + 66 * (nn a2))) = nI (104 + 326 * (nn a1) + 66 * (nn a2)) from rfl, show 33 = nI 33 from rfl, nI_add] <;> exact congrArg nI (by omega))
    refine lv_iload_n hx hb dX7_reserve_140 rfl (lv_at hl 1 rfl) ?_
    refine lv_if_le (tgt := 149) hx hb dX7_reserve_141 (by decide) (fun c138 => absurd c138 (iR_nle fa3 (show iR 0 (0) (0) from ⟨by decide, by decide⟩) (by decide))) (fun _ => ?_)
    refine lv_iload hx hb dX7_reserve_144 (lv_at hl 2 rfl) ?_
    refine lv_goto (tgt := 150) hx hb dX7_reserve_146 (by decide) ?_
    exact b150_0 ls ρ135 _ _ j130_7 (lv_sub hl [0, 3, 4] rfl) hP hS (PJ_RI hQ hI) (by omega) (by omega) (iR_w f_M__nn_a1__ (by decide) (by decide)) (iR_w fa1 (by decide) (by decide)) (iR_w fa2 (by decide) (by decide)) (iR_w fa3 (by decide) (by decide)) (by omega) (by omega) (by omega) (by omega) (by omega) (by omega) (by omega) (by omega)
  have b130_1 : ∀ (ls : Array Slot) (ρ : Nat → Nat → Int32) (H : Heap) (locs : List Loc) (j130_7 : Nat), lv_has ls 8 [(0, .ref (E.2.1 + 1076)), (3, .int a3), (5, .int a5), (6, .int (nI (104 + 326 * (nn a1) + 66 * (nn a2)))), (7, .int (nI j130_7))] → WP E ρ H → va_S (hA E) s.heap H locs → PJ r M L ρ → 0 ≤ j130_7 → j130_7 ≤ 1 → iR (M (nn a1)) (0) (5) → iR a1 (0) (1) → iR a2 (0) (3) → iR a3 (-2147483648) (0) → 1 ≤ (L (nn a1)) → (L (nn a1)) ≤ 4 → 0 ≤ (nn a1) → (nn a1) ≤ 1 → 0 ≤ (nn a2) → (nn a2) ≤ 3 → (nn a2) + 1 ≤ L (nn a1) → j130_7 + 0 ≤ L (nn a1) → W p l e (rmk 4 160) s m ([.ref (E.2.1 + 1076), .int a1, .int a2, .int a3, .int a4, .int a5] : List Value).toArray below meth c H locs 0 0 (MQ below (cI E (fun v ρ1 => PJ r M L ρ1)) ([.ref (E.2.1 + 1076), .int a1, .int a2, .int a3, .int a4, .int a5] : List Value).toArray s 0 0 (hA E)) (F0 m 130 ls [.int 0, .int (nI (136 + 326 * (nn a1) + 66 * (nn a2))), .ref (E.2.1 + 1078)]) := by
    intro ls ρ H locs j130_7 hl hP hS hI lj130_7 uj130_7 f_M__nn_a1__ fa1 fa2 fa3 tl_L__nn_a1__ tu_L__nn_a1__ tl_nn_a1_ tu_nn_a1_ tl_nn_a2_ tu_nn_a2_ hr130_0 hr130_1
    have hQ := hI.1
    have hI := PJ_I hI
    refine astn (n := 695) (j := (136 + 326 * (nn a1) + 66 * (nn a2))) B hP hS (show hk 1078 = 8 by decide +kernel) (show hlen 1078 = 695 by decide +kernel) rfl (by omega) (by decide) dX7_reserve_130 (fun H locs hP hS => ?_)
    obtain ⟨ρ139, e140⟩ : ∃ z, z = up ρ 1078 (136 + 326 * (nn a1) + 66 * (nn a2)) 0 := ⟨_, rfl⟩
    rw [← e140] at hP
    have hI : RI ρ 99998 M L X0 ρ139 := by rw [e140]; exact RI_up hI (ok_link (n0 := (nn a1)) (l0 := (nn a2)) (j := (136 + 326 * (nn a1) + 66 * (nn a2))) 32 (by omega) (by omega) (by omega) (by omega))
    refine lv_aload_n hx hb dX7_reserve_131 rfl (lv_at hl 0 rfl) ?_
    refine get7 B hP (show hk 1076 = 7 by decide +kernel) 3 (by decide) mw_1030 rfl dX7_reserve_132 ?_
    refine lv_iload hx hb dX7_reserve_135 (lv_at hl 3 rfl) ?_
    refine lv_bipush (v := 33) hx hb dX7_reserve_137 (by decide) ?_
    refine lv_iadd hx hb dX7_reserve_139 ?_
    refine lv_topi (fun z141 ez141 => ?_)
    obtain rfl : z141 = (nI (137 + 326 * (nn a1) + 66 * (nn a2))) := ez141.trans (by rw [show (nI (104 + 326 * (nn a1) + 66 * (nn a2))) = nI (104 + 326 * (nn a1) + 66 * (nn a2)) from rfl, show 33 = nI 33 from rfl, nI_add] <;> exact congrArg nI (by omega))
    refine lv_iload_n hx hb dX7_reserve_140 rfl (lv_at hl 1 rfl) ?_
    refine lv_if_le (tgt := 149) hx hb dX7_reserve_141 (by decide) (fun _ => ?_) (fun c142 => absurd (iR_le fa3 (show iR 0 (0) (0) from ⟨by decide, by decide⟩) (by decide)) c142)
    refine lv_iconst (v := 0) hx hb dX7_reserve_149 (by decide) ?_
    exact b150_1 ls ρ139 _ _ j130_7 (lv_sub hl [0, 3, 4] rfl) hP hS (PJ_RI hQ hI) (by omega) (by omega) (iR_w f_M__nn_a1__ (by decide) (by decide)) (iR_w fa1 (by decide) (by decide)) (iR_w fa2 (by decide) (by decide)) (iR_w fa3 (by decide) (by decide)) (by omega) (by omega) (by omega) (by omega) (by omega) (by omega) (by omega) (by omega)
  have b98_0 : ∀ (ls : Array Slot) (ρ : Nat → Nat → Int32) (H : Heap) (locs : List Loc) , lv_has ls 8 [(0, .ref (E.2.1 + 1076)), (3, .int a3), (4, .int a4), (5, .int a5), (6, .int (nI (104 + 326 * (nn a1) + 66 * (nn a2))))] → WP E ρ H → va_S (hA E) s.heap H locs → PJ r M L ρ → iR (M (nn a1)) (0) (5) → iR a1 (0) (1) → iR a2 (0) (3) → 1 ≤ (L (nn a1)) → (L (nn a1)) ≤ 4 → 0 ≤ (nn a1) → (nn a1) ≤ 1 → 0 ≤ (nn a2) → (nn a2) ≤ 3 → (nn a2) + 1 ≤ L (nn a1) → W p l e (rmk 4 160) s m ([.ref (E.2.1 + 1076), .int a1, .int a2, .int a3, .int a4, .int a5] : List Value).toArray below meth c H locs 0 0 (MQ below (cI E (fun v ρ1 => PJ r M L ρ1)) ([.ref (E.2.1 + 1076), .int a1, .int a2, .int a3, .int a4, .int a5] : List Value).toArray s 0 0 (hA E)) (F0 m 98 ls [.int 0]) := by
    intro ls ρ H locs  hl hP hS hI f_M__nn_a1__ fa1 fa2 tl_L__nn_a1__ tu_L__nn_a1__ tl_nn_a1_ tu_nn_a1_ tl_nn_a2_ tu_nn_a2_ hr98_0
    have hQ := hI.1
    have hI := PJ_I hI
    refine lv_istore (lv' := [(7, .int 0), (0, .ref (E.2.1 + 1076)), (3, .int a3), (4, .int a4), (5, .int a5), (6, .int (nI (104 + 326 * (nn a1) + 66 * (nn a2))))]) hx hb dX7_reserve_98 hl (by decide) rfl (fun ls hl => ?_)
    refine lv_aload_n hx hb dX7_reserve_100 rfl (lv_at hl 1 rfl) ?_
    refine get7 B hP (show hk 1076 = 7 by decide +kernel) 3 (by decide) mw_1030 rfl dX7_reserve_101 ?_
    refine lv_iload hx hb dX7_reserve_104 (lv_at hl 5 rfl) ?_
    refine lv_bipush (v := 31) hx hb dX7_reserve_106 (by decide) ?_
    refine lv_iadd hx hb dX7_reserve_108 ?_
    refine lv_topi (fun z143 ez143 => ?_)
    obtain rfl : z143 = (nI (135 + 326 * (nn a1) + 66 * (nn a2))) := ez143.trans (by rw [show (nI (104 + 326 * (nn a1) + 66 * (nn a2))) = nI (104 + 326 * (nn a1) + 66 * (nn a2)) from rfl, show 31 = nI 31 from rfl, nI_add] <;> exact congrArg nI (by omega))
    refine lv_iload_n hx hb dX7_reserve_109 rfl (lv_at hl 2 rfl) ?_
    refine astn (n := 695) (j := (135 + 326 * (nn a1) + 66 * (nn a2))) B hP hS (show hk 1078 = 8 by decide +kernel) (show hlen 1078 = 695 by decide +kernel) rfl (by omega) (by decide) dX7_reserve_110 (fun H locs hP hS => ?_)
    obtain ⟨ρ144, e145⟩ : ∃ z, z = up ρ 1078 (135 + 326 * (nn a1) + 66 * (nn a2)) a3 := ⟨_, rfl⟩
    rw [← e145] at hP
    have hI : RI ρ 99998 M L X0 ρ144 := by rw [e145]; exact RI_up hI (ok_link (n0 := (nn a1)) (l0 := (nn a2)) (j := (135 + 326 * (nn a1) + 66 * (nn a2))) 31 (by omega) (by omega) (by omega) (by omega))
    refine lv_aload_n hx hb dX7_reserve_111 rfl (lv_at hl 1 rfl) ?_
    refine get7 B hP (show hk 1076 = 7 by decide +kernel) 3 (by decide) mw_1030 rfl dX7_reserve_112 ?_
    refine lv_iload hx hb dX7_reserve_115 (lv_at hl 5 rfl) ?_
    refine lv_bipush (v := 32) hx hb dX7_reserve_117 (by decide) ?_
    refine lv_iadd hx hb dX7_reserve_119 ?_
    refine lv_topi (fun z146 ez146 => ?_)
    obtain rfl : z146 = (nI (136 + 326 * (nn a1) + 66 * (nn a2))) := ez146.trans (by rw [show (nI (104 + 326 * (nn a1) + 66 * (nn a2))) = nI (104 + 326 * (nn a1) + 66 * (nn a2)) from rfl, show 32 = nI 32 from rfl, nI_add] <;> exact congrArg nI (by omega))
    refine lv_iload_n hx hb dX7_reserve_120 rfl (lv_at hl 2 rfl) ?_
    refine lv_if_le (tgt := 129) hx hb dX7_reserve_121 (by decide) (fun c147 => ?_) (fun c147 => ?_)
    · skip
      have i148 : iR a3 (-2147483648) (0) := (iR_geR (show iR 0 (0) (0) from ⟨by decide, by decide⟩) (iR_any a3) (Int32.not_lt.mpr c147) (by decide))
      refine lv_iconst (v := 0) hx hb dX7_reserve_129 (by decide) ?_
      exact b130_1 ls ρ144 _ _ 0 (lv_sub hl [1, 2, 4, 5, 0] rfl) hP hS (PJ_RI hQ hI) (by omega) (by omega) (iR_w f_M__nn_a1__ (by decide) (by decide)) (iR_w fa1 (by decide) (by decide)) (iR_w fa2 (by decide) (by decide)) (iR_w i148 (by decide) (by decide)) (by omega) (by omega) (by omega) (by omega) (by omega) (by omega) (by omega) (by omega)
    · skip
      have i149 : iR a3 (1) (2147483647) := (iR_ltR (show iR 0 (0) (0) from ⟨by decide, by decide⟩) (iR_any a3) (Int32.not_le.mp c147) (by decide))
      refine lv_iload hx hb dX7_reserve_124 (lv_at hl 3 rfl) ?_
      refine lv_goto (tgt := 130) hx hb dX7_reserve_126 (by decide) ?_
      exact b130_0 ls ρ144 _ _ 0 (lv_sub hl [1, 2, 4, 5, 0] rfl) hP hS (PJ_RI hQ hI) (by omega) (by omega) (iR_w f_M__nn_a1__ (by decide) (by decide)) (iR_w fa1 (by decide) (by decide)) (iR_w fa2 (by decide) (by decide)) (iR_w i149 (by decide) (by decide)) (by omega) (by omega) (by omega) (by omega) (by omega) (by omega) (by omega) (by omega)
  have b98_1 : ∀ (ls : Array Slot) (ρ : Nat → Nat → Int32) (H : Heap) (locs : List Loc) , lv_has ls 8 [(0, .ref (E.2.1 + 1076)), (3, .int a3), (4, .int a4), (5, .int a5), (6, .int (nI (104 + 326 * (nn a1) + 66 * (nn a2))))] → WP E ρ H → va_S (hA E) s.heap H locs → PJ r M L ρ → iR (M (nn a1)) (0) (5) → iR a1 (0) (1) → iR a2 (0) (3) → 1 ≤ (L (nn a1)) → (L (nn a1)) ≤ 4 → 0 ≤ (nn a1) → (nn a1) ≤ 1 → 0 ≤ (nn a2) → (nn a2) ≤ 3 → (nn a2) + 1 ≤ L (nn a1) → W p l e (rmk 4 160) s m ([.ref (E.2.1 + 1076), .int a1, .int a2, .int a3, .int a4, .int a5] : List Value).toArray below meth c H locs 0 0 (MQ below (cI E (fun v ρ1 => PJ r M L ρ1)) ([.ref (E.2.1 + 1076), .int a1, .int a2, .int a3, .int a4, .int a5] : List Value).toArray s 0 0 (hA E)) (F0 m 98 ls [.int 1]) := by
    intro ls ρ H locs  hl hP hS hI f_M__nn_a1__ fa1 fa2 tl_L__nn_a1__ tu_L__nn_a1__ tl_nn_a1_ tu_nn_a1_ tl_nn_a2_ tu_nn_a2_ hr98_0
    have hQ := hI.1
    have hI := PJ_I hI
    refine lv_istore (lv' := [(7, .int 1), (0, .ref (E.2.1 + 1076)), (3, .int a3), (4, .int a4), (5, .int a5), (6, .int (nI (104 + 326 * (nn a1) + 66 * (nn a2))))]) hx hb dX7_reserve_98 hl (by decide) rfl (fun ls hl => ?_)
    refine lv_aload_n hx hb dX7_reserve_100 rfl (lv_at hl 1 rfl) ?_
    refine get7 B hP (show hk 1076 = 7 by decide +kernel) 3 (by decide) mw_1030 rfl dX7_reserve_101 ?_
    refine lv_iload hx hb dX7_reserve_104 (lv_at hl 5 rfl) ?_
    refine lv_bipush (v := 31) hx hb dX7_reserve_106 (by decide) ?_
    refine lv_iadd hx hb dX7_reserve_108 ?_
    refine lv_topi (fun z150 ez150 => ?_)
    obtain rfl : z150 = (nI (135 + 326 * (nn a1) + 66 * (nn a2))) := ez150.trans (by rw [show (nI (104 + 326 * (nn a1) + 66 * (nn a2))) = nI (104 + 326 * (nn a1) + 66 * (nn a2)) from rfl, show 31 = nI 31 from rfl, nI_add] <;> exact congrArg nI (by omega))
    refine lv_iload_n hx hb dX7_reserve_109 rfl (lv_at hl 2 rfl) ?_
    refine astn (n := 695) (j := (135 + 326 * (nn a1) + 66 * (nn a2))) B hP hS (show hk 1078 = 8 by decide +kernel) (show hlen 1078 = 695 by decide +kernel) rfl (by omega) (by decide) dX7_reserve_110 (fun H locs hP hS => ?_)
    obtain ⟨ρ151, e152⟩ : ∃ z, z = up ρ 1078 (135 + 326 * (nn a1) + 66 * (nn a2)) a3 := ⟨_, rfl⟩
    rw [← e152] at hP
    have hI : RI ρ 99998 M L X0 ρ151 := by rw [e152]; exact RI_up hI (ok_link (n0 := (nn a1)) (l0 := (nn a2)) (j := (135 + 326 * (nn a1) + 66 * (nn a2))) 31 (by omega) (by omega) (by omega) (by omega))
    refine lv_aload_n hx hb dX7_reserve_111 rfl (lv_at hl 1 rfl) ?_
    refine get7 B hP (show hk 1076 = 7 by decide +kernel) 3 (by decide) mw_1030 rfl dX7_reserve_112 ?_
    refine lv_iload hx hb dX7_reserve_115 (lv_at hl 5 rfl) ?_
    refine lv_bipush (v := 32) hx hb dX7_reserve_117 (by decide) ?_
    refine lv_iadd hx hb dX7_reserve_119 ?_
    refine lv_topi (fun z153 ez153 => ?_)
    obtain rfl : z153 = (nI (136 + 326 * (nn a1) + 66 * (nn a2))) := ez153.trans (by rw [show (nI (104 + 326 * (nn a1) + 66 * (nn a2))) = nI (104 + 326 * (nn a1) + 66 * (nn a2)) from rfl, show 32 = nI 32 from rfl, nI_add] <;> exact congrArg nI (by omega))
    refine lv_iload_n hx hb dX7_reserve_120 rfl (lv_at hl 2 rfl) ?_
    refine lv_if_le (tgt := 129) hx hb dX7_reserve_121 (by decide) (fun c154 => ?_) (fun c154 => ?_)
    · skip
      have i155 : iR a3 (-2147483648) (0) := (iR_geR (show iR 0 (0) (0) from ⟨by decide, by decide⟩) (iR_any a3) (Int32.not_lt.mpr c154) (by decide))
      refine lv_iconst (v := 0) hx hb dX7_reserve_129 (by decide) ?_
      exact b130_1 ls ρ151 _ _ 1 (lv_sub hl [1, 2, 4, 5, 0] rfl) hP hS (PJ_RI hQ hI) (by omega) (by omega) (iR_w f_M__nn_a1__ (by decide) (by decide)) (iR_w fa1 (by decide) (by decide)) (iR_w fa2 (by decide) (by decide)) (iR_w i155 (by decide) (by decide)) (by omega) (by omega) (by omega) (by omega) (by omega) (by omega) (by omega) (by omega)
    · skip
      have i156 : iR a3 (1) (2147483647) := (iR_ltR (show iR 0 (0) (0) from ⟨by decide, by decide⟩) (iR_any a3) (Int32.not_le.mp c154) (by decide))
      refine lv_iload hx hb dX7_reserve_124 (lv_at hl 3 rfl) ?_
      refine lv_goto (tgt := 130) hx hb dX7_reserve_126 (by decide) ?_
      exact b130_0 ls ρ151 _ _ 1 (lv_sub hl [1, 2, 4, 5, 0] rfl) hP hS (PJ_RI hQ hI) (by omega) (by omega) (iR_w f_M__nn_a1__ (by decide) (by decide)) (iR_w fa1 (by decide) (by decide)) (iR_w fa2 (by decide) (by decide)) (iR_w i156 (by decide) (by decide)) (by omega) (by omega) (by omega) (by omega) (by omega) (by omega) (by omega) (by omega)
  have b51_0 : ∀ (ls : Array Slot) (ρ : Nat → Nat → Int32) (H : Heap) (locs : List Loc) , lv_has ls 8 [(0, .ref (E.2.1 + 1076)), (1, .int a1), (2, .int a2), (3, .int a3), (4, .int a4), (5, .int a5)] → WP E ρ H → va_S (hA E) s.heap H locs → PJ r M L ρ → W p l e (rmk 4 160) s m ([.ref (E.2.1 + 1076), .int a1, .int a2, .int a3, .int a4, .int a5] : List Value).toArray below meth c H locs 0 0 (MQ below (cI E (fun v ρ1 => PJ r M L ρ1)) ([.ref (E.2.1 + 1076), .int a1, .int a2, .int a3, .int a4, .int a5] : List Value).toArray s 0 0 (hA E)) (F0 m 51 ls []) := by
    intro ls ρ H locs  hl hP hS hI
    have hQ := hI.1
    have hI := PJ_I hI
    refine lv_aload_n hx hb dX7_reserve_51 rfl (lv_at hl 0 rfl) ?_
    refine lv_iload_n hx hb dX7_reserve_52 rfl (lv_at hl 1 rfl) ?_
    refine lv_iload_n hx hb dX7_reserve_53 rfl (lv_at hl 2 rfl) ?_
    refine call_i (cVt (k := 1076) (av := [.int a1, .int a2]) (rest := []) B hP hS (d_X7_isLink l E ρ ρ 99998 (by decide) M L X0 a1 a2 hI) lk_RX7_106 (hrecv (ci := 7) B hP (hk_lt (c := 7) (show hk 1076 = 7 by decide +kernel) (by decide)) (hcc7 _ _ (show hk 1076 = 7 by decide +kernel)) rfl) rfl rfl hl.1 (Nat.le_of_ble_eq_true rfl) ⟨Nat.le_of_ble_eq_true rfl, Nat.le_of_ble_eq_true rfl⟩ ⟨Nat.le_of_ble_eq_true rfl, Nat.le_of_ble_eq_true rfl⟩ dX7_reserve_54) hS (fun r157 ρ158 H locs q159 hP hS => ?_)
    obtain ⟨rfl, hI, q159⟩ := q159
    rcases q159 with rfl | ⟨rfl, j160, hj160, ej160, i161, j162, hj162, ej162⟩
    · skip
      refine lv_if_ne (tgt := 67) hx hb dX7_reserve_57 (by decide) (fun c163 => absurd rfl c163) (fun _ => ?_)
      refine lv_aload_n hx hb dX7_reserve_60 rfl (lv_at hl 0 rfl) ?_
      refine lv_bipush (v := (-2)) hx hb dX7_reserve_61 (by decide) ?_
      refine call_i (cVt (k := 1076) (av := [.int (-2)]) (rest := []) B hP hS (d_X7_refuse2 l E ρ) lk_RX7_64 (hrecv (ci := 7) B hP (hk_lt (c := 7) (show hk 1076 = 7 by decide +kernel) (by decide)) (hcc7 _ _ (show hk 1076 = 7 by decide +kernel)) rfl) rfl rfl hl.1 (Nat.le_of_ble_eq_true rfl) ⟨Nat.le_of_ble_eq_true rfl, Nat.le_of_ble_eq_true rfl⟩ ⟨Nat.le_of_ble_eq_true rfl, Nat.le_of_ble_eq_true rfl⟩ dX7_reserve_63) hS (fun r164 ρ165 H locs q166 hP hS => ?_)
      have hJ2 := (show PJ r M L ρ165 from by rw [q166]; exact PJ_ref (PJ_RI hQ hI))
      have hQ := hJ2.1
      have hI := PJ_I hJ2
      exact ret_i B hr hlk hP hS dX7_reserve_66 (PJ_RI hQ hI)
    · skip
      have := RI_Lb hI hj160
      have n167 : nn a1 = j160 := nn_u ej160 (by omega)
      have i168 : iR (M (nn a1)) 0 5 := by rw [n167]; exact i161
      have : j162 < L (nn a1) := by rw [n167]; exact hj162
      have := RI_Lb (n := (nn a1)) hI (by omega)
      have n169 : nn a2 = j162 := nn_u ej162 (by omega)
      refine lv_if_ne (tgt := 67) hx hb dX7_reserve_57 (by decide) (fun _ => ?_) (fun c170 => absurd c170 (iR_ne (show iR 1 (1) (1) from ⟨by decide, by decide⟩) (show iR 0 (0) (0) from ⟨by decide, by decide⟩) (by decide)))
      refine lv_aload_n hx hb dX7_reserve_67 rfl (lv_at hl 0 rfl) ?_
      refine lv_bipush (v := 7) hx hb dX7_reserve_68 (by decide) ?_
      refine call_v (cVt (k := 1076) (av := [.int 7]) (rest := []) B hP hS (d_X7_remember l E ρ r M L (PJ_RI hQ hI) ρ rfl 7) lk_RX7_118 (hrecv (ci := 7) B hP (hk_lt (c := 7) (show hk 1076 = 7 by decide +kernel) (by decide)) (hcc7 _ _ (show hk 1076 = 7 by decide +kernel)) rfl) rfl rfl hl.1 (Nat.le_of_ble_eq_true rfl) ⟨Nat.le_of_ble_eq_true rfl, Nat.le_of_ble_eq_true rfl⟩ ⟨Nat.le_of_ble_eq_true rfl, Nat.le_of_ble_eq_true rfl⟩ dX7_reserve_70) hS (fun ρ172 H locs q173 hP hS => ?_)
      obtain ⟨hJ2, hrow174⟩ := q173
      have hJ2 := hJ2
      have hQ := hJ2.1
      have hI := PJ_I hJ2
      refine lv_iload_n hx hb dX7_reserve_73 rfl (lv_at hl 1 rfl) ?_
      refine lv_topi (fun z175 ez175 => ?_)
      obtain rfl : z175 = nI (nn a1) := ez175.trans (nn_eq a1)
      refine lv_iload_n hx hb dX7_reserve_74 rfl (lv_at hl 2 rfl) ?_
      refine lv_topi (fun z176 ez176 => ?_)
      obtain rfl : z176 = nI (nn a2) := ez176.trans (nn_eq a2)
      refine call_i (cS (av := [.int (nI (nn a1)), .int (nI (nn a2))]) (rest := []) B hP hS (d_X7_linkAt l E ρ172 ρ172 99998 (by decide) M L X0 (nn a1) (by omega) (by omega) (nn a2) (by omega) (by omega) hI) lk_RX7_82 rfl rfl hl.1 (Nat.le_of_ble_eq_true rfl) ⟨Nat.le_of_ble_eq_true rfl, Nat.le_of_ble_eq_true rfl⟩ ⟨Nat.le_of_ble_eq_true rfl, Nat.le_of_ble_eq_true rfl⟩ dX7_reserve_75) hS (fun r177 ρ178 H locs q179 hP hS => ?_)
      obtain ⟨rfl, hI, q179⟩ := q179
      obtain rfl : r177 = nI (104 + 326 * (nn a1) + 66 * (nn a2)) := q179.trans (congrArg nI (by omega))
      refine lv_istore (lv' := [(6, .int (nI (104 + 326 * (nn a1) + 66 * (nn a2)))), (0, .ref (E.2.1 + 1076)), (1, .int a1), (2, .int a2), (3, .int a3), (4, .int a4), (5, .int a5)]) hx hb dX7_reserve_78 hl (by decide) rfl (fun ls hl => ?_)
      refine lv_aload_n hx hb dX7_reserve_80 rfl (lv_at hl 1 rfl) ?_
      refine get7 B hP (show hk 1076 = 7 by decide +kernel) 3 (by decide) mw_1030 rfl dX7_reserve_81 ?_
      refine lv_iload hx hb dX7_reserve_84 (lv_at hl 0 rfl) ?_
      refine lv_bipush (v := 31) hx hb dX7_reserve_86 (by decide) ?_
      refine lv_iadd hx hb dX7_reserve_88 ?_
      refine lv_topi (fun z180 ez180 => ?_)
      obtain rfl : z180 = (nI (135 + 326 * (nn a1) + 66 * (nn a2))) := ez180.trans (by rw [show (nI (104 + 326 * (nn a1) + 66 * (nn a2))) = nI (104 + 326 * (nn a1) + 66 * (nn a2)) from rfl, show 31 = nI 31 from rfl, nI_add] <;> exact congrArg nI (by omega))
      refine aldn (n := 695) (j := (135 + 326 * (nn a1) + 66 * (nn a2))) B hP (show hk 1078 = 8 by decide +kernel) (show hlen 1078 = 695 by decide +kernel) rfl (by omega) (by decide) dX7_reserve_89 ?_
      refine lv_if_le (tgt := 97) hx hb dX7_reserve_90 (by decide) (fun c181 => ?_) (fun c181 => ?_)
      · skip
        have i182 : iR (ρ172 1078 (135 + 326 * (nn a1) + 66 * (nn a2))) (-2147483648) (0) := (iR_geR (show iR 0 (0) (0) from ⟨by decide, by decide⟩) (iR_any (ρ172 1078 (135 + 326 * (nn a1) + 66 * (nn a2)))) (Int32.not_lt.mpr c181) (by decide))
        refine lv_iconst (v := 0) hx hb dX7_reserve_97 (by decide) ?_
        exact b98_0 ls ρ172 _ _  (lv_sub hl [1, 4, 5, 6, 0] rfl) hP hS (PJ_RI hQ hI) (iR_w i168 (by decide) (by decide)) (iR_w (show iR a1 0 1 from by rw [ej160]; exact nI_iR (by omega) (by omega) (by omega)) (by decide) (by decide)) (iR_w (show iR a2 0 3 from by rw [ej162]; exact nI_iR (by omega) (by omega) (by omega)) (by decide) (by decide)) (by omega) (by omega) (by omega) (by omega) (by omega) (by omega) (by omega)
      · skip
        have i183 : iR (ρ172 1078 (135 + 326 * (nn a1) + 66 * (nn a2))) (1) (2147483647) := (iR_ltR (show iR 0 (0) (0) from ⟨by decide, by decide⟩) (iR_any (ρ172 1078 (135 + 326 * (nn a1) + 66 * (nn a2)))) (Int32.not_le.mp c181) (by decide))
        refine lv_iconst (v := 1) hx hb dX7_reserve_93 (by decide) ?_
        refine lv_goto (tgt := 98) hx hb dX7_reserve_94 (by decide) ?_
        exact b98_1 ls ρ172 _ _  (lv_sub hl [1, 4, 5, 6, 0] rfl) hP hS (PJ_RI hQ hI) (iR_w i168 (by decide) (by decide)) (iR_w (show iR a1 0 1 from by rw [ej160]; exact nI_iR (by omega) (by omega) (by omega)) (by decide) (by decide)) (iR_w (show iR a2 0 3 from by rw [ej162]; exact nI_iR (by omega) (by omega) (by omega)) (by decide) (by decide)) (by omega) (by omega) (by omega) (by omega) (by omega) (by omega) (by omega)
  have b45_0 : ∀ (ls : Array Slot) (ρ : Nat → Nat → Int32) (H : Heap) (locs : List Loc) , lv_has ls 8 [(0, .ref (E.2.1 + 1076))] → WP E ρ H → va_S (hA E) s.heap H locs → PJ r M L ρ → W p l e (rmk 4 160) s m ([.ref (E.2.1 + 1076), .int a1, .int a2, .int a3, .int a4, .int a5] : List Value).toArray below meth c H locs 0 0 (MQ below (cI E (fun v ρ1 => PJ r M L ρ1)) ([.ref (E.2.1 + 1076), .int a1, .int a2, .int a3, .int a4, .int a5] : List Value).toArray s 0 0 (hA E)) (F0 m 45 ls []) := by
    intro ls ρ H locs  hl hP hS hI
    have hQ := hI.1
    have hI := PJ_I hI
    refine lv_aload_n hx hb dX7_reserve_45 rfl (lv_at hl 0 rfl) ?_
    refine lv_iconst (v := (-1)) hx hb dX7_reserve_46 (by decide) ?_
    refine call_i (cVt (k := 1076) (av := [.int (-1)]) (rest := []) B hP hS (d_X7_refuse1 l E ρ) lk_RX7_64 (hrecv (ci := 7) B hP (hk_lt (c := 7) (show hk 1076 = 7 by decide +kernel) (by decide)) (hcc7 _ _ (show hk 1076 = 7 by decide +kernel)) rfl) rfl rfl hl.1 (Nat.le_of_ble_eq_true rfl) ⟨Nat.le_of_ble_eq_true rfl, Nat.le_of_ble_eq_true rfl⟩ ⟨Nat.le_of_ble_eq_true rfl, Nat.le_of_ble_eq_true rfl⟩ dX7_reserve_47) hS (fun r184 ρ185 H locs q186 hP hS => ?_)
    have hJ2 := (show PJ r M L ρ185 from by rw [q186]; exact PJ_ref (PJ_RI hQ hI))
    have hQ := hJ2.1
    have hI := PJ_I hJ2
    exact ret_i B hr hlk hP hS dX7_reserve_50 (PJ_RI hQ hI)
  refine lv_aload_n hx hb dX7_reserve_0 rfl (lv_at hl 0 rfl) ?_
  refine lv_iconst (v := 0) hx hb dX7_reserve_1 (by decide) ?_
  refine put7 B hP hS (show hk 1076 = 7 by decide +kernel) 0 (by decide) mw_1027 rfl rfl rfl (fs7_0 E 1076 _ _) dX7_reserve_2 (fun H locs hP hS => ?_)
  obtain ⟨ρ187, e188⟩ : ∃ z, z = up ρ 1076 0 0 := ⟨_, rfl⟩
  rw [← e188] at hP
  have hI : RI ρ 99998 M L X0 ρ187 := by rw [e188]; exact RI_76 hI (by decide)
  refine lv_iload_n hx hb dX7_reserve_5 rfl (lv_at hl 3 rfl) ?_
  refine lv_if_eq (tgt := 51) hx hb dX7_reserve_6 (by decide) (fun c189 => ?_) (fun c189 => ?_)
  · skip
    have i190 : iR a3 (0) (0) := (by rw [c189]; exact ⟨by decide, by decide⟩)
    exact b51_0 ls ρ187 _ _  (lv_sub hl [0, 1, 2, 3, 4, 5] rfl) hP hS (PJ_RI hQ hI) 
  · skip
    refine lv_iload_n hx hb dX7_reserve_9 rfl (lv_at hl 3 rfl) ?_
    refine lv_bipush (v := 6) hx hb dX7_reserve_10 (by decide) ?_
    refine lv_bipush (v := 40) hx hb dX7_reserve_12 (by decide) ?_
    refine call_i (cS (av := [.int a3, .int 6, .int 40]) (rest := []) B hP hS (d_X7_isEven l E ρ187 ρ 99998 (by decide) M L X0 a3 6 40 hI) lk_RX7_149 rfl rfl hl.1 (Nat.le_of_ble_eq_true rfl) ⟨Nat.le_of_ble_eq_true rfl, Nat.le_of_ble_eq_true rfl⟩ ⟨Nat.le_of_ble_eq_true rfl, Nat.le_of_ble_eq_true rfl⟩ dX7_reserve_14) hS (fun r191 ρ192 H locs q193 hP hS => ?_)
    obtain ⟨rfl, hI, q193⟩ := q193
    obtain ⟨j194, lj194, uj194, ej194⟩ := iR_nat (a := 0) (b := 1) q193
    refine lv_topi (fun z195 ez195 => ?_)
    obtain rfl : z195 = nI j194 := ez195.trans ej194
    refine lv_if_eq (tgt := 45) hx hb dX7_reserve_17 (by decide) (fun c196 => ?_) (fun c196 => ?_)
    · skip
      have n197 := (nI_eq (a := j194) (b := 0) (by omega) (by omega)).mp (show (nI j194 = nI 0) from c196)
      exact b45_0 ls ρ187 _ _  (lv_sub hl [0] rfl) hP hS (PJ_RI hQ hI) 
    · skip
      have n198 := mt (nI_eq (a := j194) (b := 0) (by omega) (by omega)).mpr (show ¬ (nI j194 = nI 0) from c196)
      refine lv_iload hx hb dX7_reserve_20 (lv_at hl 4 rfl) ?_
      refine lv_iconst (v := 0) hx hb dX7_reserve_22 (by decide) ?_
      refine lv_iload_n hx hb dX7_reserve_23 rfl (lv_at hl 3 rfl) ?_
      refine lv_iconst (v := 1) hx hb dX7_reserve_24 (by decide) ?_
      refine lv_isub hx hb dX7_reserve_25 ?_
      refine call_i (cS (av := [.int a4, .int 0, .int (a3 - 1)]) (rest := []) B hP hS (d_X7_isEven l E ρ187 ρ 99998 (by decide) M L X0 a4 0 (a3 - 1) hI) lk_RX7_149 rfl rfl hl.1 (Nat.le_of_ble_eq_true rfl) ⟨Nat.le_of_ble_eq_true rfl, Nat.le_of_ble_eq_true rfl⟩ ⟨Nat.le_of_ble_eq_true rfl, Nat.le_of_ble_eq_true rfl⟩ dX7_reserve_26) hS (fun r199 ρ200 H locs q201 hP hS => ?_)
      obtain ⟨rfl, hI, q201⟩ := q201
      obtain ⟨j202, lj202, uj202, ej202⟩ := iR_nat (a := 0) (b := 1) q201
      refine lv_topi (fun z203 ez203 => ?_)
      obtain rfl : z203 = nI j202 := ez203.trans ej202
      refine lv_if_eq (tgt := 45) hx hb dX7_reserve_29 (by decide) (fun c204 => ?_) (fun c204 => ?_)
      · skip
        have n205 := (nI_eq (a := j202) (b := 0) (by omega) (by omega)).mp (show (nI j202 = nI 0) from c204)
        exact b45_0 ls ρ187 _ _  (lv_sub hl [0] rfl) hP hS (PJ_RI hQ hI) 
      · skip
        have n206 := mt (nI_eq (a := j202) (b := 0) (by omega) (by omega)).mpr (show ¬ (nI j202 = nI 0) from c204)
        refine lv_iload hx hb dX7_reserve_32 (lv_at hl 5 rfl) ?_
        refine lv_i2l hx hb dX7_reserve_34 rfl ?_
        refine lv_lconst (v := 1) hx hb dX7_reserve_35 (by decide) ?_
        refine lv_ldc2 (v := 3) hx hb hown (hts _ mw_1227) dX7_reserve_36 ?_
        refine call_i (cS (av := [.long a5.toInt64, .long 1, .long 3]) (rest := []) B hP hS (c_in l E ρ187 a5.toInt64 1 3 1 3 (by decide) (by decide)) lk_RX7_71 rfl rfl hl.1 (Nat.le_of_ble_eq_true rfl) ⟨Nat.le_of_ble_eq_true rfl, Nat.le_of_ble_eq_true rfl⟩ ⟨Nat.le_of_ble_eq_true rfl, Nat.le_of_ble_eq_true rfl⟩ dX7_reserve_39) hS (fun r207 ρ208 H locs q209 hP hS => ?_)
        obtain ⟨rfl, q209⟩ := q209
        rcases q209 with ⟨rfl, q209⟩ | ⟨rfl, q209⟩
        · skip
          have i210 : iR a5 1 3 := (lR_i _ _ _).mp q209
          refine lv_if_ne (tgt := 51) hx hb dX7_reserve_42 (by decide) (fun _ => ?_) (fun c211 => absurd c211 (iR_ne (show iR 1 (1) (1) from ⟨by decide, by decide⟩) (show iR 0 (0) (0) from ⟨by decide, by decide⟩) (by decide)))
          exact b51_0 ls ρ187 _ _  (lv_sub hl [0, 1, 2, 3, 4, 5] rfl) hP hS (PJ_RI hQ hI) 
        · skip
          refine lv_if_ne (tgt := 51) hx hb dX7_reserve_42 (by decide) (fun c212 => absurd rfl c212) (fun _ => ?_)
          exact b45_0 ls ρ187 _ _  (lv_sub hl [0] rfl) hP hS (PJ_RI hQ hI) 

set_option maxHeartbeats 4000000 in
set_option maxRecDepth 100000 in
theorem d_X7_tellMap (l : Launch) (E : hE) (ρ r : Nat → Nat → Int32) (M : Nat → Int32) (L : Nat → Nat) (hJ : PJ r M L ρ) (na1 : Nat) (lna1 : 0 ≤ na1) (una1 : na1 ≤ 1) (na2 : Nat) (lna2 : 0 ≤ na2) (una2 : na2 ≤ 8388607) (na3 : Nat) (lna3 : 1 ≤ na3) (una3 : na3 ≤ 100) (hm : iR (M na1) 0 5) : Met l yX7_tellMap (.code yX7_tellMap cX7_tellMap 6 (some .int) :: gw_all) (rmk 3 120) (cPre E ρ [.ref (E.2.1 + 1076), .int (nI na1), .int (nI na2), .int (nI na3)]) (cI E (fun v ρ1 => PJ r M L ρ1)) 0 0 (hA E) := by
  refine ent (own := RX7) (by decide) rfl (Nat.le_of_ble_eq_true rfl) ?_
  intro p e s m below meth c ls B hr hlk hl hP hS
  have hx := B.1.1
  have hb := B.1.2.1
  have hown := B.1.2.2.2.1
  have hts := B.1.2.2.2.2
  have hl : lv_has ls 6 [(0, .ref (E.2.1 + 1076)), (1, .int (nI na1)), (2, .int (nI na2)), (3, .int (nI na3))] := hl
  have hQ := hJ.1
  have hI := PJ_I hJ
  have b45_0 : ∀ (ls : Array Slot) (ρ : Nat → Nat → Int32) (H : Heap) (locs : List Loc) (d45 : Nat) (j45_5 : Nat), lv_has ls 6 [(0, .ref (E.2.1 + 1076)), (1, .int (nI na1)), (4, .int (nI (42 + 326 * na1))), (5, .int (nI j45_5))] → WP E ρ H → va_S (hA E) s.heap H locs → PJ r M L ρ → 5 - j45_5 < d45 → 0 ≤ j45_5 → j45_5 ≤ 4 → iR (M na1) (0) (5) → 0 ≤ na1 → na1 ≤ 1 → 0 ≤ na2 → na2 ≤ 8388607 → 1 ≤ na3 → na3 ≤ 100 → W p l e (rmk 3 120) s m ([.ref (E.2.1 + 1076), .int (nI na1), .int (nI na2), .int (nI na3)] : List Value).toArray below meth c H locs 0 0 (MQ below (cI E (fun v ρ1 => PJ r M L ρ1)) ([.ref (E.2.1 + 1076), .int (nI na1), .int (nI na2), .int (nI na3)] : List Value).toArray s 0 0 (hA E)) (F0 m 45 ls []) := by
    intro ls ρ H locs d45
    induction d45 generalizing ls ρ H locs with
    | zero => intro j45_5 hl hP hS hI hd45 lj45_5 uj45_5 f_M_na1_ tlna1 tuna1 tlna2 tuna2 tlna3 tuna3; exact absurd hd45 (Nat.not_lt_zero _)
    | succ d45 ih45 =>
      intro j45_5 hl hP hS hI hd45 lj45_5 uj45_5 f_M_na1_ tlna1 tuna1 tlna2 tuna2 tlna3 tuna3
      have hQ := hI.1
      have hI := PJ_I hI
      refine lv_iload hx hb dX7_tellMap_45 (lv_at hl 3 rfl) ?_
      refine lv_aload_n hx hb dX7_tellMap_47 rfl (lv_at hl 0 rfl) ?_
      refine get7 B hP (show hk 1076 = 7 by decide +kernel) 3 (by decide) mw_1030 rfl dX7_tellMap_48 ?_
      refine lv_iload hx hb dX7_tellMap_51 (lv_at hl 2 rfl) ?_
      refine lv_bipush (v := 6) hx hb dX7_tellMap_53 (by decide) ?_
      refine lv_iadd hx hb dX7_tellMap_55 ?_
      refine lv_topi (fun z89 ez89 => ?_)
      obtain rfl : z89 = (nI (48 + 326 * na1)) := ez89.trans (by rw [show (nI (42 + 326 * na1)) = nI (42 + 326 * na1) from rfl, show 6 = nI 6 from rfl, nI_add] <;> exact congrArg nI (by omega))
      have := RI_Lb (n := na1) hI (by omega)
      refine aldf (n := 695) (j := (48 + 326 * na1)) (v := (nI (L na1))) B hP (show hk 1078 = 8 by decide +kernel) (show hlen 1078 = 695 by decide +kernel) rfl (by omega) (by decide) (g_l (n0 := na1) hI (by omega) (by omega)) dX7_tellMap_56 ?_
      refine lv_icmp_ge (tgt := 80) hx hb dX7_tellMap_57 (by decide) (fun c90 => ?_) (fun c90 => ?_)
      · skip
        have n91 := mt (nx_lt (a := j45_5) (b := (L na1)) (by omega) (by omega)).mpr (show ¬ (nI j45_5 < nI (L na1)) from (Int32.not_lt.mpr c90))
        refine lv_aload_n hx hb dX7_tellMap_80 rfl (lv_at hl 0 rfl) ?_
        refine lv_aload_n hx hb dX7_tellMap_81 rfl (lv_at hl 0 rfl) ?_
        refine get7 B hP (show hk 1076 = 7 by decide +kernel) 3 (by decide) mw_1030 rfl dX7_tellMap_82 ?_
        refine lv_iload hx hb dX7_tellMap_85 (lv_at hl 2 rfl) ?_
        refine lv_iconst (v := 4) hx hb dX7_tellMap_87 (by decide) ?_
        refine lv_iadd hx hb dX7_tellMap_88 ?_
        refine lv_topi (fun z92 ez92 => ?_)
        obtain rfl : z92 = (nI (46 + 326 * na1)) := ez92.trans (by rw [show (nI (42 + 326 * na1)) = nI (42 + 326 * na1) from rfl, show 4 = nI 4 from rfl, nI_add] <;> exact congrArg nI (by omega))
        refine aldn (n := 695) (j := (46 + 326 * na1)) B hP (show hk 1078 = 8 by decide +kernel) (show hlen 1078 = 695 by decide +kernel) rfl (by omega) (by decide) dX7_tellMap_89 ?_
        refine call_i (cVt (k := 1076) (av := [.int (ρ 1078 (46 + 326 * na1))]) (rest := []) B hP hS (d_X7_tell l E ρ (ρ 1078 (46 + 326 * na1))) lk_RX7_68 (hrecv (ci := 7) B hP (hk_lt (c := 7) (show hk 1076 = 7 by decide +kernel) (by decide)) (hcc7 _ _ (show hk 1076 = 7 by decide +kernel)) rfl) rfl rfl hl.1 (Nat.le_of_ble_eq_true rfl) ⟨Nat.le_of_ble_eq_true rfl, Nat.le_of_ble_eq_true rfl⟩ ⟨Nat.le_of_ble_eq_true rfl, Nat.le_of_ble_eq_true rfl⟩ dX7_tellMap_90) hS (fun r93 ρ94 H locs q95 hP hS => ?_)
        have hI : RI ρ 99998 M L X0 ρ94 := by rw [q95]; exact RI_76 hI (by decide)
        exact ret_i B hr hlk hP hS dX7_tellMap_93 (PJ_RI hQ hI)
      · skip
        have n96 := (nx_lt (a := j45_5) (b := (L na1)) (by omega) (by omega)).mp (show (nI j45_5 < nI (L na1)) from (Int32.not_le.mp c90))
        refine lv_aload_n hx hb dX7_tellMap_60 rfl (lv_at hl 0 rfl) ?_
        refine get7 B hP (show hk 1076 = 7 by decide +kernel) 3 (by decide) mw_1030 rfl dX7_tellMap_61 ?_
        refine lv_iload_n hx hb dX7_tellMap_64 rfl (lv_at hl 1 rfl) ?_
        refine lv_iload hx hb dX7_tellMap_65 (lv_at hl 3 rfl) ?_
        refine call_i (cS (av := [.int (nI na1), .int (nI j45_5)]) (rest := [.ref (E.2.1 + 1078)]) B hP hS (d_X7_linkAt l E ρ ρ 99998 (by decide) M L X0 na1 (by omega) (by omega) j45_5 (by omega) (by omega) hI) lk_RX7_82 rfl rfl hl.1 (Nat.le_of_ble_eq_true rfl) ⟨Nat.le_of_ble_eq_true rfl, Nat.le_of_ble_eq_true rfl⟩ ⟨Nat.le_of_ble_eq_true rfl, Nat.le_of_ble_eq_true rfl⟩ dX7_tellMap_67) hS (fun r97 ρ98 H locs q99 hP hS => ?_)
        obtain ⟨rfl, hI, q99⟩ := q99
        obtain rfl : r97 = nI (104 + 326 * na1 + 66 * j45_5) := q99.trans (congrArg nI (by omega))
        refine lv_iconst (v := 4) hx hb dX7_tellMap_70 (by decide) ?_
        refine lv_iadd hx hb dX7_tellMap_71 ?_
        refine lv_topi (fun z100 ez100 => ?_)
        obtain rfl : z100 = (nI (108 + 326 * na1 + 66 * j45_5)) := ez100.trans (by rw [show (nI (104 + 326 * na1 + 66 * j45_5)) = nI (104 + 326 * na1 + 66 * j45_5) from rfl, show 4 = nI 4 from rfl, nI_add] <;> exact congrArg nI (by omega))
        refine lv_iconst (v := 0) hx hb dX7_tellMap_72 (by decide) ?_
        refine astn (n := 695) (j := (108 + 326 * na1 + 66 * j45_5)) B hP hS (show hk 1078 = 8 by decide +kernel) (show hlen 1078 = 695 by decide +kernel) rfl (by omega) (by decide) dX7_tellMap_73 (fun H locs hP hS => ?_)
        obtain ⟨ρ101, e102⟩ : ∃ z, z = up ρ 1078 (108 + 326 * na1 + 66 * j45_5) 0 := ⟨_, rfl⟩
        rw [← e102] at hP
        have hI : RI ρ 99998 M L X0 ρ101 := by rw [e102]; exact RI_up hI (ok_link (n0 := na1) (l0 := j45_5) (j := (108 + 326 * na1 + 66 * j45_5)) 4 (by omega) (by omega) (by omega) (by omega))
        refine lv_iinc (v := (nI (1 + j45_5))) (lv' := [(5, .int (nI (1 + j45_5))), (0, .ref (E.2.1 + 1076)), (1, .int (nI na1)), (4, .int (nI (42 + 326 * na1)))]) hx hb dX7_tellMap_74 hl (k := 3) rfl (show nI j45_5 + nI 1 = _ from (nI_add _ _).trans (congrArg nI (by omega))) (by decide) rfl (fun ls hl => ?_)
        refine lv_goto (tgt := 45) hx hb dX7_tellMap_77 (by decide) ?_
        exact ih45 ls ρ101 _ _ (1 + j45_5) (lv_sub hl [1, 2, 3, 0] rfl) hP hS (PJ_RI hQ hI) (by omega) (by omega) (by omega) (iR_w f_M_na1_ (by decide) (by decide)) (by omega) (by omega) (by omega) (by omega) (by omega) (by omega)
  refine lv_iload_n hx hb dX7_tellMap_0 rfl (lv_at hl 1 rfl) ?_
  refine call_i (cS (av := [.int (nI na1)]) (rest := []) B hP hS (d_X7_netAt l E ρ ρ 99998 (by decide) M L X0 na1 (by omega) (by omega) hI) lk_RX7_75 rfl rfl hl.1 (Nat.le_of_ble_eq_true rfl) ⟨Nat.le_of_ble_eq_true rfl, Nat.le_of_ble_eq_true rfl⟩ ⟨Nat.le_of_ble_eq_true rfl, Nat.le_of_ble_eq_true rfl⟩ dX7_tellMap_1) hS (fun r103 ρ104 H locs q105 hP hS => ?_)
  obtain ⟨rfl, hI, q105⟩ := q105
  obtain rfl : r103 = nI (42 + 326 * na1) := q105.trans (congrArg nI (by omega))
  refine lv_istore (lv' := [(4, .int (nI (42 + 326 * na1))), (0, .ref (E.2.1 + 1076)), (1, .int (nI na1)), (2, .int (nI na2)), (3, .int (nI na3))]) hx hb dX7_tellMap_4 hl (by decide) rfl (fun ls hl => ?_)
  refine lv_aload_n hx hb dX7_tellMap_6 rfl (lv_at hl 1 rfl) ?_
  refine lv_bipush (v := 8) hx hb dX7_tellMap_7 (by decide) ?_
  refine call_v (cVt (k := 1076) (av := [.int 8]) (rest := []) B hP hS (d_X7_remember l E ρ r M L (PJ_RI hQ hI) ρ rfl 8) lk_RX7_118 (hrecv (ci := 7) B hP (hk_lt (c := 7) (show hk 1076 = 7 by decide +kernel) (by decide)) (hcc7 _ _ (show hk 1076 = 7 by decide +kernel)) rfl) rfl rfl hl.1 (Nat.le_of_ble_eq_true rfl) ⟨Nat.le_of_ble_eq_true rfl, Nat.le_of_ble_eq_true rfl⟩ ⟨Nat.le_of_ble_eq_true rfl, Nat.le_of_ble_eq_true rfl⟩ dX7_tellMap_9) hS (fun ρ107 H locs q108 hP hS => ?_)
  obtain ⟨hJ2, hrow109⟩ := q108
  have hJ2 := hJ2
  have hQ := hJ2.1
  have hI := PJ_I hJ2
  refine lv_aload_n hx hb dX7_tellMap_12 rfl (lv_at hl 1 rfl) ?_
  refine get7 B hP (show hk 1076 = 7 by decide +kernel) 3 (by decide) mw_1030 rfl dX7_tellMap_13 ?_
  refine lv_iload hx hb dX7_tellMap_16 (lv_at hl 0 rfl) ?_
  refine lv_iconst (v := 3) hx hb dX7_tellMap_18 (by decide) ?_
  refine lv_iadd hx hb dX7_tellMap_19 ?_
  refine lv_topi (fun z110 ez110 => ?_)
  obtain rfl : z110 = (nI (45 + 326 * na1)) := ez110.trans (by rw [show (nI (42 + 326 * na1)) = nI (42 + 326 * na1) from rfl, show 3 = nI 3 from rfl, nI_add] <;> exact congrArg nI (by omega))
  refine lv_iload_n hx hb dX7_tellMap_20 rfl (lv_at hl 3 rfl) ?_
  refine astn (n := 695) (j := (45 + 326 * na1)) B hP hS (show hk 1078 = 8 by decide +kernel) (show hlen 1078 = 695 by decide +kernel) rfl (by omega) (by decide) dX7_tellMap_21 (fun H locs hP hS => ?_)
  obtain ⟨ρ111, e112⟩ : ∃ z, z = up ρ107 1078 (45 + 326 * na1) (nI na2) := ⟨_, rfl⟩
  rw [← e112] at hP
  have hI : RI ρ107 99998 M L X0 ρ111 := by rw [e112]; exact RI_up hI (ok_next (n0 := na1) (j := (45 + 326 * na1)) (by omega) (iR_w (a := 0) (b := 8388607) (nI_iR (j := na2) (a := 0) (b := 8388607) (by omega) (by omega) (by omega)) (by decide) (by decide)) (by omega))
  refine lv_aload_n hx hb dX7_tellMap_22 rfl (lv_at hl 1 rfl) ?_
  refine get7 B hP (show hk 1076 = 7 by decide +kernel) 3 (by decide) mw_1030 rfl dX7_tellMap_23 ?_
  refine lv_iload hx hb dX7_tellMap_26 (lv_at hl 0 rfl) ?_
  refine lv_iconst (v := 4) hx hb dX7_tellMap_28 (by decide) ?_
  refine lv_iadd hx hb dX7_tellMap_29 ?_
  refine lv_topi (fun z113 ez113 => ?_)
  obtain rfl : z113 = (nI (46 + 326 * na1)) := ez113.trans (by rw [show (nI (42 + 326 * na1)) = nI (42 + 326 * na1) from rfl, show 4 = nI 4 from rfl, nI_add] <;> exact congrArg nI (by omega))
  refine lv_aload_n hx hb dX7_tellMap_30 rfl (lv_at hl 1 rfl) ?_
  refine get7 B hP (show hk 1076 = 7 by decide +kernel) 3 (by decide) mw_1030 rfl dX7_tellMap_31 ?_
  refine lv_bipush (v := 7) hx hb dX7_tellMap_34 (by decide) ?_
  refine aldn (n := 695) (j := 7) B hP (show hk 1078 = 8 by decide +kernel) (show hlen 1078 = 695 by decide +kernel) rfl (by omega) (by decide) dX7_tellMap_36 ?_
  have i114 : iR (ρ111 1078 7) (0) (1000000) := (iR_w (g_time hI) (by omega) (by omega))
  obtain ⟨j115, lj115, uj115, ej115⟩ := iR_nat (a := 0) (b := 1000000) i114
  refine lv_topi (fun z116 ez116 => ?_)
  obtain rfl : z116 = nI j115 := ez116.trans ej115
  refine lv_iconst (v := 2) hx hb dX7_tellMap_37 (by decide) ?_
  refine lv_iload_n hx hb dX7_tellMap_38 rfl (lv_at hl 4 rfl) ?_
  refine lv_imul hx hb dX7_tellMap_39 ?_
  refine lv_topi (fun z117 ez117 => ?_)
  obtain rfl : z117 = (nI (2 * na3)) := ez117.trans (by rw [show 2 = nI 2 from rfl, show (nI na3) = nI na3 from rfl, nI_mul] <;> exact congrArg nI (by omega))
  refine lv_iadd hx hb dX7_tellMap_40 ?_
  refine lv_topi (fun z118 ez118 => ?_)
  obtain rfl : z118 = (nI (2 * na3 + j115)) := ez118.trans (by rw [show (nI j115) = nI j115 from rfl, show (nI (2 * na3)) = nI (2 * na3) from rfl, nI_add] <;> exact congrArg nI (by omega))
  refine astn (n := 695) (j := (46 + 326 * na1)) B hP hS (show hk 1078 = 8 by decide +kernel) (show hlen 1078 = 695 by decide +kernel) rfl (by omega) (by decide) dX7_tellMap_41 (fun H locs hP hS => ?_)
  obtain ⟨ρ119, e120⟩ : ∃ z, z = up ρ111 1078 (46 + 326 * na1) (nI (2 * na3 + j115)) := ⟨_, rfl⟩
  rw [← e120] at hP
  have hI : RI ρ107 99998 M L X0 ρ119 := by rw [e120]; exact RI_up hI (ok_net (n0 := na1) (j := (46 + 326 * na1)) 4 (by omega) (by omega) (by omega))
  refine lv_iconst (v := 0) hx hb dX7_tellMap_42 (by decide) ?_
  refine lv_istore (lv' := [(5, .int 0), (4, .int (nI (42 + 326 * na1))), (0, .ref (E.2.1 + 1076)), (1, .int (nI na1)), (2, .int (nI na2)), (3, .int (nI na3))]) hx hb dX7_tellMap_43 hl (by decide) rfl (fun ls hl => ?_)
  exact b45_0 ls ρ119 _ _ _ 0 (lv_sub hl [2, 3, 1, 0] rfl) hP hS (PJ_RI hQ hI) (Nat.lt_succ_self _) (by omega) (by omega) (iR_w hm (by decide) (by decide)) (by omega) (by omega) (by omega) (by omega) (by omega) (by omega)

theorem lk_RX7_159 : LkV RX7 159 RX7 yX7_tellMap cX7_tellMap 6 (some .int) 3 := ⟨⟨mw_1234, mw_1236, mw_19, mw_59, mw_1237⟩, by decide +kernel⟩
set_option maxHeartbeats 4000000 in
set_option maxRecDepth 100000 in
theorem d_X7_map (l : Launch) (E : hE) (ρ r : Nat → Nat → Int32) (M : Nat → Int32) (L : Nat → Nat) (hJ : PJ r M L ρ) (a1 : Int32) (a2 : Int32) (a3 : Int32) : Met l yX7_map (.code yX7_map cX7_map 4 (some .int) :: gw_all) (rmk 4 160) (cPre E ρ [.ref (E.2.1 + 1076), .int a1, .int a2, .int a3]) (cI E (fun v ρ1 => PJ r M L ρ1)) 0 0 (hA E) := by
  refine ent (own := RX7) (by decide) rfl (Nat.le_of_ble_eq_true rfl) ?_
  intro p e s m below meth c ls B hr hlk hl hP hS
  have hx := B.1.1
  have hb := B.1.2.1
  have hown := B.1.2.2.2.1
  have hts := B.1.2.2.2.2
  have hl : lv_has ls 4 [(0, .ref (E.2.1 + 1076)), (1, .int a1), (2, .int a2), (3, .int a3)] := hl
  have hQ := hJ.1
  have hI := PJ_I hJ
  have b38_0 : ∀ (ls : Array Slot) (ρ : Nat → Nat → Int32) (H : Heap) (locs : List Loc) , lv_has ls 4 [(0, .ref (E.2.1 + 1076))] → WP E ρ H → va_S (hA E) s.heap H locs → PJ r M L ρ → W p l e (rmk 4 160) s m ([.ref (E.2.1 + 1076), .int a1, .int a2, .int a3] : List Value).toArray below meth c H locs 0 0 (MQ below (cI E (fun v ρ1 => PJ r M L ρ1)) ([.ref (E.2.1 + 1076), .int a1, .int a2, .int a3] : List Value).toArray s 0 0 (hA E)) (F0 m 38 ls []) := by
    intro ls ρ H locs  hl hP hS hI
    have hQ := hI.1
    have hI := PJ_I hI
    refine lv_aload_n hx hb dX7_map_38 rfl (lv_at hl 0 rfl) ?_
    refine lv_iconst (v := (-1)) hx hb dX7_map_39 (by decide) ?_
    refine call_i (cVt (k := 1076) (av := [.int (-1)]) (rest := []) B hP hS (d_X7_refuse1 l E ρ) lk_RX7_64 (hrecv (ci := 7) B hP (hk_lt (c := 7) (show hk 1076 = 7 by decide +kernel) (by decide)) (hcc7 _ _ (show hk 1076 = 7 by decide +kernel)) rfl) rfl rfl hl.1 (Nat.le_of_ble_eq_true rfl) ⟨Nat.le_of_ble_eq_true rfl, Nat.le_of_ble_eq_true rfl⟩ ⟨Nat.le_of_ble_eq_true rfl, Nat.le_of_ble_eq_true rfl⟩ dX7_map_40) hS (fun r57 ρ58 H locs q59 hP hS => ?_)
    have hJ2 := (show PJ r M L ρ58 from by rw [q59]; exact PJ_ref (PJ_RI hQ hI))
    have hQ := hJ2.1
    have hI := PJ_I hJ2
    exact ret_i B hr hlk hP hS dX7_map_43 (PJ_RI hQ hI)
  refine lv_aload_n hx hb dX7_map_0 rfl (lv_at hl 0 rfl) ?_
  refine lv_iconst (v := 0) hx hb dX7_map_1 (by decide) ?_
  refine put7 B hP hS (show hk 1076 = 7 by decide +kernel) 0 (by decide) mw_1027 rfl rfl rfl (fs7_0 E 1076 _ _) dX7_map_2 (fun H locs hP hS => ?_)
  obtain ⟨ρ60, e61⟩ : ∃ z, z = up ρ 1076 0 0 := ⟨_, rfl⟩
  rw [← e61] at hP
  have hI : RI ρ 99998 M L X0 ρ60 := by rw [e61]; exact RI_76 hI (by decide)
  refine lv_iload_n hx hb dX7_map_5 rfl (lv_at hl 2 rfl) ?_
  refine lv_i2l hx hb dX7_map_6 rfl ?_
  refine lv_lconst (v := 0) hx hb dX7_map_7 (by decide) ?_
  refine lv_ldc2 (v := 8388607) hx hb hown (hts _ mw_1232) dX7_map_8 ?_
  refine call_i (cS (av := [.long a2.toInt64, .long 0, .long 8388607]) (rest := []) B hP hS (c_in l E ρ60 a2.toInt64 0 8388607 0 8388607 (by decide) (by decide)) lk_RX7_71 rfl rfl hl.1 (Nat.le_of_ble_eq_true rfl) ⟨Nat.le_of_ble_eq_true rfl, Nat.le_of_ble_eq_true rfl⟩ ⟨Nat.le_of_ble_eq_true rfl, Nat.le_of_ble_eq_true rfl⟩ dX7_map_11) hS (fun r62 ρ63 H locs q64 hP hS => ?_)
  obtain ⟨rfl, q64⟩ := q64
  rcases q64 with ⟨rfl, q64⟩ | ⟨rfl, q64⟩
  · skip
    have i65 : iR a2 0 8388607 := (lR_i _ _ _).mp q64
    refine lv_if_eq (tgt := 38) hx hb dX7_map_14 (by decide) (fun c66 => absurd c66 (iR_ne (show iR 1 (1) (1) from ⟨by decide, by decide⟩) (show iR 0 (0) (0) from ⟨by decide, by decide⟩) (by decide))) (fun _ => ?_)
    refine lv_iload_n hx hb dX7_map_17 rfl (lv_at hl 2 rfl) ?_
    have := nn_r (x := a2) (a := 0) (b := 8388607) i65 (by decide)
    refine lv_topi (fun z67 ez67 => ?_)
    obtain rfl : z67 = nI (nn a2) := ez67.trans (nn_eq a2)
    refine call_i (cS (av := [.int (nI (nn a2))]) (rest := []) B hP hS (c_bits l E ρ60 (nn a2) (by omega)) lk_RX7_93 rfl rfl hl.1 (Nat.le_of_ble_eq_true rfl) ⟨Nat.le_of_ble_eq_true rfl, Nat.le_of_ble_eq_true rfl⟩ ⟨Nat.le_of_ble_eq_true rfl, Nat.le_of_ble_eq_true rfl⟩ dX7_map_18) hS (fun r68 ρ69 H locs q70 hP hS => ?_)
    obtain ⟨rfl, rfl⟩ := q70
    have := pcc_le (nn a2)
    refine lv_bipush (v := 8) hx hb dX7_map_21 (by decide) ?_
    refine lv_icmp_lt (tgt := 38) hx hb dX7_map_23 (by decide) (fun c71 => ?_) (fun c71 => ?_)
    · skip
      have n72 := (nx_lt (a := (pcc (nn a2))) (b := 8) (by omega) (by omega)).mp (show (nI (pcc (nn a2)) < nI 8) from c71)
      exact b38_0 ls ρ60 _ _  (lv_sub hl [0] rfl) hP hS (PJ_RI hQ hI) 
    · skip
      have n73 := mt (nx_lt (a := (pcc (nn a2))) (b := 8) (by omega) (by omega)).mpr (show ¬ (nI (pcc (nn a2)) < nI 8) from c71)
      refine lv_iload_n hx hb dX7_map_26 rfl (lv_at hl 3 rfl) ?_
      refine lv_i2l hx hb dX7_map_27 rfl ?_
      refine lv_lconst (v := 1) hx hb dX7_map_28 (by decide) ?_
      refine lv_ldc2 (v := 100) hx hb hown (hts _ mw_1233) dX7_map_29 ?_
      refine call_i (cS (av := [.long a3.toInt64, .long 1, .long 100]) (rest := []) B hP hS (c_in l E ρ60 a3.toInt64 1 100 1 100 (by decide) (by decide)) lk_RX7_71 rfl rfl hl.1 (Nat.le_of_ble_eq_true rfl) ⟨Nat.le_of_ble_eq_true rfl, Nat.le_of_ble_eq_true rfl⟩ ⟨Nat.le_of_ble_eq_true rfl, Nat.le_of_ble_eq_true rfl⟩ dX7_map_32) hS (fun r74 ρ75 H locs q76 hP hS => ?_)
      obtain ⟨rfl, q76⟩ := q76
      rcases q76 with ⟨rfl, q76⟩ | ⟨rfl, q76⟩
      · skip
        have i77 : iR a3 1 100 := (lR_i _ _ _).mp q76
        refine lv_if_ne (tgt := 44) hx hb dX7_map_35 (by decide) (fun _ => ?_) (fun c78 => absurd c78 (iR_ne (show iR 1 (1) (1) from ⟨by decide, by decide⟩) (show iR 0 (0) (0) from ⟨by decide, by decide⟩) (by decide)))
        refine lv_aload_n hx hb dX7_map_44 rfl (lv_at hl 0 rfl) ?_
        refine lv_iload_n hx hb dX7_map_45 rfl (lv_at hl 1 rfl) ?_
        refine call_i (cVt (k := 1076) (av := [.int a1]) (rest := []) B hP hS (d_X7_isNet l E ρ60 ρ 99998 (by decide) M L X0 a1 hI) lk_RX7_78 (hrecv (ci := 7) B hP (hk_lt (c := 7) (show hk 1076 = 7 by decide +kernel) (by decide)) (hcc7 _ _ (show hk 1076 = 7 by decide +kernel)) rfl) rfl rfl hl.1 (Nat.le_of_ble_eq_true rfl) ⟨Nat.le_of_ble_eq_true rfl, Nat.le_of_ble_eq_true rfl⟩ ⟨Nat.le_of_ble_eq_true rfl, Nat.le_of_ble_eq_true rfl⟩ dX7_map_46) hS (fun r79 ρ80 H locs q81 hP hS => ?_)
        obtain ⟨rfl, hI, q81⟩ := q81
        rcases q81 with rfl | ⟨rfl, j82, hj82, ej82, i83⟩
        · skip
          refine lv_if_ne (tgt := 59) hx hb dX7_map_49 (by decide) (fun c84 => absurd rfl c84) (fun _ => ?_)
          refine lv_aload_n hx hb dX7_map_52 rfl (lv_at hl 0 rfl) ?_
          refine lv_bipush (v := (-2)) hx hb dX7_map_53 (by decide) ?_
          refine call_i (cVt (k := 1076) (av := [.int (-2)]) (rest := []) B hP hS (d_X7_refuse2 l E ρ60) lk_RX7_64 (hrecv (ci := 7) B hP (hk_lt (c := 7) (show hk 1076 = 7 by decide +kernel) (by decide)) (hcc7 _ _ (show hk 1076 = 7 by decide +kernel)) rfl) rfl rfl hl.1 (Nat.le_of_ble_eq_true rfl) ⟨Nat.le_of_ble_eq_true rfl, Nat.le_of_ble_eq_true rfl⟩ ⟨Nat.le_of_ble_eq_true rfl, Nat.le_of_ble_eq_true rfl⟩ dX7_map_55) hS (fun r85 ρ86 H locs q87 hP hS => ?_)
          have hJ2 := (show PJ r M L ρ86 from by rw [q87]; exact PJ_ref (PJ_RI hQ hI))
          have hQ := hJ2.1
          have hI := PJ_I hJ2
          exact ret_i B hr hlk hP hS dX7_map_58 (PJ_RI hQ hI)
        · skip
          have n88 : nn a1 = j82 := nn_u ej82 (by omega)
          have i89 : iR (M (nn a1)) 0 5 := by rw [n88]; exact i83
          refine lv_if_ne (tgt := 59) hx hb dX7_map_49 (by decide) (fun _ => ?_) (fun c90 => absurd c90 (iR_ne (show iR 1 (1) (1) from ⟨by decide, by decide⟩) (show iR 0 (0) (0) from ⟨by decide, by decide⟩) (by decide)))
          refine lv_aload_n hx hb dX7_map_59 rfl (lv_at hl 0 rfl) ?_
          refine get7 B hP (show hk 1076 = 7 by decide +kernel) 3 (by decide) mw_1030 rfl dX7_map_60 ?_
          refine lv_iload_n hx hb dX7_map_63 rfl (lv_at hl 1 rfl) ?_
          refine lv_topi (fun z91 ez91 => ?_)
          obtain rfl : z91 = nI (nn a1) := ez91.trans (nn_eq a1)
          refine call_i (cS (av := [.int (nI (nn a1))]) (rest := [.ref (E.2.1 + 1078)]) B hP hS (d_X7_netAt l E ρ60 ρ 99998 (by decide) M L X0 (nn a1) (by omega) (by omega) hI) lk_RX7_75 rfl rfl hl.1 (Nat.le_of_ble_eq_true rfl) ⟨Nat.le_of_ble_eq_true rfl, Nat.le_of_ble_eq_true rfl⟩ ⟨Nat.le_of_ble_eq_true rfl, Nat.le_of_ble_eq_true rfl⟩ dX7_map_64) hS (fun r92 ρ93 H locs q94 hP hS => ?_)
          obtain ⟨rfl, hI, q94⟩ := q94
          obtain rfl : r92 = nI (42 + 326 * (nn a1)) := q94.trans (congrArg nI (by omega))
          refine lv_iconst (v := 3) hx hb dX7_map_67 (by decide) ?_
          refine lv_iadd hx hb dX7_map_68 ?_
          refine lv_topi (fun z95 ez95 => ?_)
          obtain rfl : z95 = (nI (45 + 326 * (nn a1))) := ez95.trans (by rw [show (nI (42 + 326 * (nn a1))) = nI (42 + 326 * (nn a1)) from rfl, show 3 = nI 3 from rfl, nI_add] <;> exact congrArg nI (by omega))
          refine aldn (n := 695) (j := (45 + 326 * (nn a1))) B hP (show hk 1078 = 8 by decide +kernel) (show hlen 1078 = 695 by decide +kernel) rfl (by omega) (by decide) dX7_map_69 ?_
          have i96 : iR (ρ60 1078 (45 + 326 * (nn a1))) (0) (8388607) := g_next (n0 := (nn a1)) (j := (45 + 326 * (nn a1))) hI (by omega) (by omega)
          obtain ⟨j97, lj97, uj97, ej97⟩ := iR_nat (a := 0) (b := 8388607) i96
          refine lv_topi (fun z98 ez98 => ?_)
          obtain rfl : z98 = nI j97 := ez98.trans ej97
          refine lv_if_eq (tgt := 82) hx hb dX7_map_70 (by decide) (fun c99 => ?_) (fun c99 => ?_)
          · skip
            have n100 := (nI_eq (a := j97) (b := 0) (by omega) (by omega)).mp (show (nI j97 = nI 0) from c99)
            refine lv_aload_n hx hb dX7_map_82 rfl (lv_at hl 0 rfl) ?_
            refine lv_iload_n hx hb dX7_map_83 rfl (lv_at hl 1 rfl) ?_
            refine lv_topi (fun z101 ez101 => ?_)
            obtain rfl : z101 = nI (nn a1) := ez101.trans (nn_eq a1)
            refine lv_iload_n hx hb dX7_map_84 rfl (lv_at hl 2 rfl) ?_
            refine lv_topi (fun z102 ez102 => ?_)
            obtain rfl : z102 = nI (nn a2) := ez102.trans (nn_eq a2)
            refine lv_iload_n hx hb dX7_map_85 rfl (lv_at hl 3 rfl) ?_
            have := nn_r (x := a3) (a := 1) (b := 100) i77 (by decide)
            refine lv_topi (fun z103 ez103 => ?_)
            obtain rfl : z103 = nI (nn a3) := ez103.trans (nn_eq a3)
            refine call_i (cVt (k := 1076) (av := [.int (nI (nn a1)), .int (nI (nn a2)), .int (nI (nn a3))]) (rest := []) B hP hS (d_X7_tellMap l E ρ60 r M L (PJ_RI hQ hI) (nn a1) (by omega) (by omega) (nn a2) (by omega) (by omega) (nn a3) (by omega) (by omega) i89) lk_RX7_159 (hrecv (ci := 7) B hP (hk_lt (c := 7) (show hk 1076 = 7 by decide +kernel) (by decide)) (hcc7 _ _ (show hk 1076 = 7 by decide +kernel)) rfl) rfl rfl hl.1 (Nat.le_of_ble_eq_true rfl) ⟨Nat.le_of_ble_eq_true rfl, Nat.le_of_ble_eq_true rfl⟩ ⟨Nat.le_of_ble_eq_true rfl, Nat.le_of_ble_eq_true rfl⟩ dX7_map_86) hS (fun r104 ρ105 H locs q106 hP hS => ?_)
            have hJ2 := q106
            have hQ := hJ2.1
            have hI := PJ_I hJ2
            exact ret_i B hr hlk hP hS dX7_map_89 (PJ_RI hQ hI)
          · skip
            have n107 := mt (nI_eq (a := j97) (b := 0) (by omega) (by omega)).mpr (show ¬ (nI j97 = nI 0) from c99)
            refine lv_aload_n hx hb dX7_map_73 rfl (lv_at hl 0 rfl) ?_
            refine lv_bipush (v := (-4)) hx hb dX7_map_74 (by decide) ?_
            refine call_i (cVt (k := 1076) (av := [.int (-4)]) (rest := []) B hP hS (d_X7_refuse4 l E ρ60) lk_RX7_64 (hrecv (ci := 7) B hP (hk_lt (c := 7) (show hk 1076 = 7 by decide +kernel) (by decide)) (hcc7 _ _ (show hk 1076 = 7 by decide +kernel)) rfl) rfl rfl hl.1 (Nat.le_of_ble_eq_true rfl) ⟨Nat.le_of_ble_eq_true rfl, Nat.le_of_ble_eq_true rfl⟩ ⟨Nat.le_of_ble_eq_true rfl, Nat.le_of_ble_eq_true rfl⟩ dX7_map_76) hS (fun r108 ρ109 H locs q110 hP hS => ?_)
            have hJ2 := (show PJ r M L ρ109 from by rw [q110]; exact PJ_ref (PJ_RI hQ hI))
            have hQ := hJ2.1
            have hI := PJ_I hJ2
            refine lv_goto (tgt := 89) hx hb dX7_map_79 (by decide) ?_
            exact ret_i B hr hlk hP hS dX7_map_89 (PJ_RI hQ hI)
      · skip
        refine lv_if_ne (tgt := 44) hx hb dX7_map_35 (by decide) (fun c111 => absurd rfl c111) (fun _ => ?_)
        exact b38_0 ls ρ60 _ _  (lv_sub hl [0] rfl) hP hS (PJ_RI hQ hI) 
  · skip
    refine lv_if_eq (tgt := 38) hx hb dX7_map_14 (by decide) (fun _ => ?_) (fun c112 => absurd rfl c112)
    exact b38_0 ls ρ60 _ _  (lv_sub hl [0] rfl) hP hS (PJ_RI hQ hI) 

theorem lk_RX7_167 : LkV RX7 167 RX7 yX7_aheadOf cX7_aheadOf 6 (some .int) 2 := ⟨⟨mw_1247, mw_1249, mw_21, mw_59, mw_1250⟩, by decide +kernel⟩
set_option maxHeartbeats 4000000 in
set_option maxRecDepth 100000 in
theorem d_X7_adapt (l : Launch) (E : hE) (ρ r : Nat → Nat → Int32) (M : Nat → Int32) (L : Nat → Nat) (hJ : PJ r M L ρ) (a1 : Int32) (a2 : Int32) (a3 : Int32) : Met l yX7_adapt (.code yX7_adapt cX7_adapt 8 (some .int) :: gw_all) (rmk 4 160) (cPre E ρ [.ref (E.2.1 + 1076), .int a1, .int a2, .int a3]) (cI E (fun v ρ1 => PJ r M L ρ1)) 0 0 (hA E) := by
  refine ent (own := RX7) (by decide) rfl (Nat.le_of_ble_eq_true rfl) ?_
  intro p e s m below meth c ls B hr hlk hl hP hS
  have hx := B.1.1
  have hb := B.1.2.1
  have hown := B.1.2.2.2.1
  have hts := B.1.2.2.2.2
  have hl : lv_has ls 8 [(0, .ref (E.2.1 + 1076)), (1, .int a1), (2, .int a2), (3, .int a3)] := hl
  have hQ := hJ.1
  have hI := PJ_I hJ
  have b177_0 : ∀ (ls : Array Slot) (ρ : Nat → Nat → Int32) (H : Heap) (locs : List Loc) (x177_6 : Int32), lv_has ls 8 [(0, .ref (E.2.1 + 1076)), (1, .int a1), (3, .int a3), (6, .int x177_6)] → WP E ρ H → va_S (hA E) s.heap H locs → PJ r M L ρ → iR x177_6 (0) (8388607) → iR (M (nn a1)) (0) (5) → iR a1 (0) (1) → iR a2 (1) (99) → iR a3 (1) (100) → 0 ≤ (nn a1) → (nn a1) ≤ 1 → 1 ≤ (nn a2) → (nn a2) ≤ 99 → W p l e (rmk 4 160) s m ([.ref (E.2.1 + 1076), .int a1, .int a2, .int a3] : List Value).toArray below meth c H locs 0 0 (MQ below (cI E (fun v ρ1 => PJ r M L ρ1)) ([.ref (E.2.1 + 1076), .int a1, .int a2, .int a3] : List Value).toArray s 0 0 (hA E)) (F0 m 177 ls []) := by
    intro ls ρ H locs x177_6 hl hP hS hI hx177_6 f_M__nn_a1__ fa1 fa2 fa3 tl_nn_a1_ tu_nn_a1_ tl_nn_a2_ tu_nn_a2_
    have hQ := hI.1
    have hI := PJ_I hI
    refine lv_aload_n hx hb dX7_adapt_177 rfl (lv_at hl 0 rfl) ?_
    refine lv_iload_n hx hb dX7_adapt_178 rfl (lv_at hl 1 rfl) ?_
    have := nn_r (x := a1) (a := 0) (b := 1) fa1 (by decide)
    refine lv_topi (fun z278 ez278 => ?_)
    obtain rfl : z278 = nI (nn a1) := ez278.trans (nn_eq a1)
    refine lv_iload hx hb dX7_adapt_179 (lv_at hl 3 rfl) ?_
    obtain ⟨j279, lj279, uj279, ej279⟩ := iR_nat (a := 0) (b := 8388607) hx177_6
    refine lv_topi (fun z280 ez280 => ?_)
    obtain rfl : z280 = nI j279 := ez280.trans ej279
    refine lv_iload_n hx hb dX7_adapt_181 rfl (lv_at hl 2 rfl) ?_
    have := nn_r (x := a3) (a := 1) (b := 100) fa3 (by decide)
    refine lv_topi (fun z281 ez281 => ?_)
    obtain rfl : z281 = nI (nn a3) := ez281.trans (nn_eq a3)
    refine call_i (cVt (k := 1076) (av := [.int (nI (nn a1)), .int (nI j279), .int (nI (nn a3))]) (rest := []) B hP hS (d_X7_tellMap l E ρ r M L (PJ_RI hQ hI) (nn a1) (by omega) (by omega) j279 (by omega) (by omega) (nn a3) (by omega) (by omega) f_M__nn_a1__) lk_RX7_159 (hrecv (ci := 7) B hP (hk_lt (c := 7) (show hk 1076 = 7 by decide +kernel) (by decide)) (hcc7 _ _ (show hk 1076 = 7 by decide +kernel)) rfl) rfl rfl hl.1 (Nat.le_of_ble_eq_true rfl) ⟨Nat.le_of_ble_eq_true rfl, Nat.le_of_ble_eq_true rfl⟩ ⟨Nat.le_of_ble_eq_true rfl, Nat.le_of_ble_eq_true rfl⟩ dX7_adapt_182) hS (fun r282 ρ283 H locs q284 hP hS => ?_)
    have hJ2 := q284
    have hQ := hJ2.1
    have hI := PJ_I hJ2
    exact ret_i B hr hlk hP hS dX7_adapt_185 (PJ_RI hQ hI)
  have b120_0 : ∀ (ls : Array Slot) (ρ : Nat → Nat → Int32) (H : Heap) (locs : List Loc) (d120 : Nat) (x120_6 : Int32) (j120_7 : Nat), lv_has ls 8 [(0, .ref (E.2.1 + 1076)), (1, .int a1), (3, .int a3), (4, .int (nI (42 + 326 * (nn a1)))), (6, .int x120_6), (7, .int (nI j120_7))] → WP E ρ H → va_S (hA E) s.heap H locs → PJ r M L ρ → 24 - j120_7 < d120 → iR x120_6 (0) (8388607) → 0 ≤ j120_7 → j120_7 ≤ 23 → iR (M (nn a1)) (0) (5) → iR a1 (0) (1) → iR a2 (1) (99) → iR a3 (1) (100) → 0 ≤ (nn a1) → (nn a1) ≤ 1 → 1 ≤ (nn a2) → (nn a2) ≤ 99 → W p l e (rmk 4 160) s m ([.ref (E.2.1 + 1076), .int a1, .int a2, .int a3] : List Value).toArray below meth c H locs 0 0 (MQ below (cI E (fun v ρ1 => PJ r M L ρ1)) ([.ref (E.2.1 + 1076), .int a1, .int a2, .int a3] : List Value).toArray s 0 0 (hA E)) (F0 m 120 ls []) := by
    intro ls ρ H locs d120
    induction d120 generalizing ls ρ H locs with
    | zero => intro x120_6 j120_7 hl hP hS hI hd120 hx120_6 lj120_7 uj120_7 f_M__nn_a1__ fa1 fa2 fa3 tl_nn_a1_ tu_nn_a1_ tl_nn_a2_ tu_nn_a2_; exact absurd hd120 (Nat.not_lt_zero _)
    | succ d120 ih120 =>
      intro x120_6 j120_7 hl hP hS hI hd120 hx120_6 lj120_7 uj120_7 f_M__nn_a1__ fa1 fa2 fa3 tl_nn_a1_ tu_nn_a1_ tl_nn_a2_ tu_nn_a2_
      have b168_0 : ∀ (ls : Array Slot) (ρ : Nat → Nat → Int32) (H : Heap) (locs : List Loc) (j168_s0 : Nat) (x168_s1 : Int32), lv_has ls 8 [(0, .ref (E.2.1 + 1076)), (1, .int a1), (3, .int a3), (4, .int (nI (42 + 326 * (nn a1)))), (7, .int (nI j120_7))] → WP E ρ H → va_S (hA E) s.heap H locs → PJ r M L ρ → 0 ≤ j168_s0 → j168_s0 ≤ 8388607 → iR x168_s1 (1) (4194304) → iR (M (nn a1)) (0) (5) → iR a1 (0) (1) → iR a2 (1) (99) → iR a3 (1) (100) → 0 ≤ (nn a1) → (nn a1) ≤ 1 → 1 ≤ (nn a2) → (nn a2) ≤ 99 → 0 ≤ j120_7 → j120_7 ≤ 22 → W p l e (rmk 4 160) s m ([.ref (E.2.1 + 1076), .int a1, .int a2, .int a3] : List Value).toArray below meth c H locs 0 0 (MQ below (cI E (fun v ρ1 => PJ r M L ρ1)) ([.ref (E.2.1 + 1076), .int a1, .int a2, .int a3] : List Value).toArray s 0 0 (hA E)) (F0 m 168 ls [.int x168_s1, .int (nI j168_s0)]) := by
        intro ls ρ H locs j168_s0 x168_s1 hl hP hS hI lj168_s0 uj168_s0 hx168_s1 f_M__nn_a1__ fa1 fa2 fa3 tl_nn_a1_ tu_nn_a1_ tl_nn_a2_ tu_nn_a2_ tlj120_7 tuj120_7
        have hQ := hI.1
        have hI := PJ_I hI
        refine lv_ior hx hb dX7_adapt_168 ?_
        refine lv_istore (lv' := [(6, .int ((nI j168_s0) ||| x168_s1)), (0, .ref (E.2.1 + 1076)), (1, .int a1), (3, .int a3), (4, .int (nI (42 + 326 * (nn a1)))), (7, .int (nI j120_7))]) hx hb dX7_adapt_169 hl (by decide) rfl (fun ls hl => ?_)
        refine lv_iinc (v := (nI (1 + j120_7))) (lv' := [(7, .int (nI (1 + j120_7))), (6, .int ((nI j168_s0) ||| x168_s1)), (0, .ref (E.2.1 + 1076)), (1, .int a1), (3, .int a3), (4, .int (nI (42 + 326 * (nn a1))))]) hx hb dX7_adapt_171 hl (k := 5) rfl (show nI j120_7 + nI 1 = _ from (nI_add _ _).trans (congrArg nI (by omega))) (by decide) rfl (fun ls hl => ?_)
        refine lv_goto (tgt := 120) hx hb dX7_adapt_174 (by decide) ?_
        exact ih120 ls ρ _ _ (((nI j168_s0) ||| x168_s1) : Int32) (1 + j120_7) (lv_sub hl [2, 3, 4, 5, 1, 0] rfl) hP hS (PJ_RI hQ hI) (by omega) (iR_w (iR_or (iR_w (nI_iR (j := j168_s0) (a := 0) (b := 8388607) (by omega) (by omega) (by omega)) (by decide) (by decide)) (iR_w hx168_s1 (by decide) (by decide))) (by decide) (by decide)) (by omega) (by omega) (iR_w f_M__nn_a1__ (by decide) (by decide)) (iR_w fa1 (by decide) (by decide)) (iR_w fa2 (by decide) (by decide)) (iR_w fa3 (by decide) (by decide)) (by omega) (by omega) (by omega) (by omega)
      have b168_1 : ∀ (ls : Array Slot) (ρ : Nat → Nat → Int32) (H : Heap) (locs : List Loc) (j168_s0 : Nat), lv_has ls 8 [(0, .ref (E.2.1 + 1076)), (1, .int a1), (3, .int a3), (4, .int (nI (42 + 326 * (nn a1)))), (7, .int (nI j120_7))] → WP E ρ H → va_S (hA E) s.heap H locs → PJ r M L ρ → 0 ≤ j168_s0 → j168_s0 ≤ 8388607 → iR (M (nn a1)) (0) (5) → iR a1 (0) (1) → iR a2 (1) (99) → iR a3 (1) (100) → 0 ≤ (nn a1) → (nn a1) ≤ 1 → 1 ≤ (nn a2) → (nn a2) ≤ 99 → 0 ≤ j120_7 → j120_7 ≤ 22 → W p l e (rmk 4 160) s m ([.ref (E.2.1 + 1076), .int a1, .int a2, .int a3] : List Value).toArray below meth c H locs 0 0 (MQ below (cI E (fun v ρ1 => PJ r M L ρ1)) ([.ref (E.2.1 + 1076), .int a1, .int a2, .int a3] : List Value).toArray s 0 0 (hA E)) (F0 m 168 ls [.int 0, .int (nI j168_s0)]) := by
        intro ls ρ H locs j168_s0 hl hP hS hI lj168_s0 uj168_s0 f_M__nn_a1__ fa1 fa2 fa3 tl_nn_a1_ tu_nn_a1_ tl_nn_a2_ tu_nn_a2_ tlj120_7 tuj120_7
        have hQ := hI.1
        have hI := PJ_I hI
        refine lv_ior hx hb dX7_adapt_168 ?_
        refine lv_istore (lv' := [(6, .int ((nI j168_s0) ||| 0)), (0, .ref (E.2.1 + 1076)), (1, .int a1), (3, .int a3), (4, .int (nI (42 + 326 * (nn a1)))), (7, .int (nI j120_7))]) hx hb dX7_adapt_169 hl (by decide) rfl (fun ls hl => ?_)
        refine lv_iinc (v := (nI (1 + j120_7))) (lv' := [(7, .int (nI (1 + j120_7))), (6, .int ((nI j168_s0) ||| 0)), (0, .ref (E.2.1 + 1076)), (1, .int a1), (3, .int a3), (4, .int (nI (42 + 326 * (nn a1))))]) hx hb dX7_adapt_171 hl (k := 5) rfl (show nI j120_7 + nI 1 = _ from (nI_add _ _).trans (congrArg nI (by omega))) (by decide) rfl (fun ls hl => ?_)
        refine lv_goto (tgt := 120) hx hb dX7_adapt_174 (by decide) ?_
        exact ih120 ls ρ _ _ (((nI j168_s0) ||| 0) : Int32) (1 + j120_7) (lv_sub hl [2, 3, 4, 5, 1, 0] rfl) hP hS (PJ_RI hQ hI) (by omega) (iR_w (iR_or (iR_w (nI_iR (j := j168_s0) (a := 0) (b := 8388607) (by omega) (by omega) (by omega)) (by decide) (by decide)) (iR_w (show iR 0 (0) (0) from ⟨by decide, by decide⟩) (by decide) (by decide))) (by decide) (by decide)) (by omega) (by omega) (iR_w f_M__nn_a1__ (by decide) (by decide)) (iR_w fa1 (by decide) (by decide)) (iR_w fa2 (by decide) (by decide)) (iR_w fa3 (by decide) (by decide)) (by omega) (by omega) (by omega) (by omega)
      have b167_0 : ∀ (ls : Array Slot) (ρ : Nat → Nat → Int32) (H : Heap) (locs : List Loc) (j167_s0 : Nat), lv_has ls 8 [(0, .ref (E.2.1 + 1076)), (1, .int a1), (3, .int a3), (4, .int (nI (42 + 326 * (nn a1)))), (7, .int (nI j120_7))] → WP E ρ H → va_S (hA E) s.heap H locs → PJ r M L ρ → 0 ≤ j167_s0 → j167_s0 ≤ 8388607 → iR (M (nn a1)) (0) (5) → iR a1 (0) (1) → iR a2 (1) (99) → iR a3 (1) (100) → 0 ≤ (nn a1) → (nn a1) ≤ 1 → 1 ≤ (nn a2) → (nn a2) ≤ 99 → 0 ≤ j120_7 → j120_7 ≤ 22 → W p l e (rmk 4 160) s m ([.ref (E.2.1 + 1076), .int a1, .int a2, .int a3] : List Value).toArray below meth c H locs 0 0 (MQ below (cI E (fun v ρ1 => PJ r M L ρ1)) ([.ref (E.2.1 + 1076), .int a1, .int a2, .int a3] : List Value).toArray s 0 0 (hA E)) (F0 m 167 ls [.int (nI j167_s0)]) := by
        intro ls ρ H locs j167_s0 hl hP hS hI lj167_s0 uj167_s0 f_M__nn_a1__ fa1 fa2 fa3 tl_nn_a1_ tu_nn_a1_ tl_nn_a2_ tu_nn_a2_ tlj120_7 tuj120_7
        have hQ := hI.1
        have hI := PJ_I hI
        refine lv_iconst (v := 0) hx hb dX7_adapt_167 (by decide) ?_
        exact b168_1 ls ρ _ _ j167_s0 (lv_sub hl [0, 1, 2, 3, 4] rfl) hP hS (PJ_RI hQ hI) (by omega) (by omega) (iR_w f_M__nn_a1__ (by decide) (by decide)) (iR_w fa1 (by decide) (by decide)) (iR_w fa2 (by decide) (by decide)) (iR_w fa3 (by decide) (by decide)) (by omega) (by omega) (by omega) (by omega) (by omega) (by omega)
      have hQ := hI.1
      have hI := PJ_I hI
      refine lv_iload hx hb dX7_adapt_120 (lv_at hl 5 rfl) ?_
      refine lv_bipush (v := 23) hx hb dX7_adapt_122 (by decide) ?_
      refine lv_icmp_ge (tgt := 177) hx hb dX7_adapt_124 (by decide) (fun c285 => ?_) (fun c285 => ?_)
      · skip
        have n286 := mt (nx_lt (a := j120_7) (b := 23) (by omega) (by omega)).mpr (show ¬ (nI j120_7 < nI 23) from (Int32.not_lt.mpr c285))
        exact b177_0 ls ρ _ _ (x120_6 : Int32) (lv_sub hl [0, 1, 2, 4] rfl) hP hS (PJ_RI hQ hI) (iR_w hx120_6 (by decide) (by decide)) (iR_w f_M__nn_a1__ (by decide) (by decide)) (iR_w fa1 (by decide) (by decide)) (iR_w fa2 (by decide) (by decide)) (iR_w fa3 (by decide) (by decide)) (by omega) (by omega) (by omega) (by omega)
      · skip
        have n287 := (nx_lt (a := j120_7) (b := 23) (by omega) (by omega)).mp (show (nI j120_7 < nI 23) from (Int32.not_le.mp c285))
        refine lv_iload hx hb dX7_adapt_127 (lv_at hl 4 rfl) ?_
        obtain ⟨j288, lj288, uj288, ej288⟩ := iR_nat (a := 0) (b := 8388607) hx120_6
        refine lv_topi (fun z289 ez289 => ?_)
        obtain rfl : z289 = nI j288 := ez289.trans ej288
        refine lv_aload_n hx hb dX7_adapt_129 rfl (lv_at hl 0 rfl) ?_
        refine get7 B hP (show hk 1076 = 7 by decide +kernel) 3 (by decide) mw_1030 rfl dX7_adapt_130 ?_
        refine lv_iload hx hb dX7_adapt_133 (lv_at hl 3 rfl) ?_
        refine lv_iconst (v := 2) hx hb dX7_adapt_135 (by decide) ?_
        refine lv_iadd hx hb dX7_adapt_136 ?_
        refine lv_topi (fun z290 ez290 => ?_)
        obtain rfl : z290 = (nI (44 + 326 * (nn a1))) := ez290.trans (by rw [show (nI (42 + 326 * (nn a1))) = nI (42 + 326 * (nn a1)) from rfl, show 2 = nI 2 from rfl, nI_add] <;> exact congrArg nI (by omega))
        refine aldn (n := 695) (j := (44 + 326 * (nn a1))) B hP (show hk 1078 = 8 by decide +kernel) (show hlen 1078 = 695 by decide +kernel) rfl (by omega) (by decide) dX7_adapt_137 ?_
        have i291 : iR (ρ 1078 (44 + 326 * (nn a1))) (1) (8388607) := g_map (n0 := (nn a1)) (j := (44 + 326 * (nn a1))) hI (by omega) f_M__nn_a1__ (by omega)
        obtain ⟨j292, lj292, uj292, ej292⟩ := iR_nat (a := 1) (b := 8388607) i291
        refine lv_topi (fun z293 ez293 => ?_)
        obtain rfl : z293 = nI j292 := ez293.trans ej292
        refine lv_iload hx hb dX7_adapt_138 (lv_at hl 5 rfl) ?_
        refine lv_ishr hx hb dX7_adapt_140 ?_
        refine lv_iconst (v := 1) hx hb dX7_adapt_141 (by decide) ?_
        refine lv_iand hx hb dX7_adapt_142 ?_
        refine lv_iconst (v := 1) hx hb dX7_adapt_143 (by decide) ?_
        refine lv_icmp_ne (tgt := 167) hx hb dX7_adapt_144 (by decide) (fun c294 => ?_) (fun c294 => ?_)
        · skip
          have i295 : iR (((nI j292) >>> (((nI j120_7) : Int32) &&& 31)) &&& 1) (0) (0) := (iR_neL (iR_andR (show iR 1 (1) (1) from ⟨by decide, by decide⟩) (by decide)) (show iR 1 (1) (1) from ⟨by decide, by decide⟩) c294 (by decide) (by decide))
          exact b167_0 ls ρ _ _ j288 (lv_sub hl [0, 1, 2, 3, 5] rfl) hP hS (PJ_RI hQ hI) (by omega) (by omega) (iR_w f_M__nn_a1__ (by decide) (by decide)) (iR_w fa1 (by decide) (by decide)) (iR_w fa2 (by decide) (by decide)) (iR_w fa3 (by decide) (by decide)) (by omega) (by omega) (by omega) (by omega) (by omega) (by omega)
        · skip
          have i296 : iR (((nI j292) >>> (((nI j120_7) : Int32) &&& 31)) &&& 1) (1) (1) := (by rw [c294]; exact ⟨by decide, by decide⟩)
          refine lv_aload_n hx hb dX7_adapt_147 rfl (lv_at hl 0 rfl) ?_
          refine lv_iload hx hb dX7_adapt_148 (lv_at hl 3 rfl) ?_
          refine lv_iload hx hb dX7_adapt_150 (lv_at hl 5 rfl) ?_
          refine call_i (cVt (k := 1076) (av := [.int (nI (42 + 326 * (nn a1))), .int (nI j120_7)]) (rest := [.int (nI j288)]) B hP hS (d_X7_aheadOf l E ρ ρ 99998 (by decide) M L X0 (nn a1) (by omega) j120_7 (by omega) (by omega) hI) lk_RX7_167 (hrecv (ci := 7) B hP (hk_lt (c := 7) (show hk 1076 = 7 by decide +kernel) (by decide)) (hcc7 _ _ (show hk 1076 = 7 by decide +kernel)) rfl) rfl rfl hl.1 (Nat.le_of_ble_eq_true rfl) ⟨Nat.le_of_ble_eq_true rfl, Nat.le_of_ble_eq_true rfl⟩ ⟨Nat.le_of_ble_eq_true rfl, Nat.le_of_ble_eq_true rfl⟩ dX7_adapt_152) hS (fun r297 ρ298 H locs q299 hP hS => ?_)
          obtain ⟨rfl, hI⟩ := q299
          refine lv_bipush (v := 8) hx hb dX7_adapt_155 (by decide) ?_
          refine lv_icmp_ge (tgt := 167) hx hb dX7_adapt_157 (by decide) (fun c300 => ?_) (fun c300 => ?_)
          · skip
            have i301 : iR r297 (8) (2147483647) := (iR_geL (iR_any r297) (show iR 8 (8) (8) from ⟨by decide, by decide⟩) (Int32.not_lt.mpr c300) (by decide))
            exact b167_0 ls ρ _ _ j288 (lv_sub hl [0, 1, 2, 3, 5] rfl) hP hS (PJ_RI hQ hI) (by omega) (by omega) (iR_w f_M__nn_a1__ (by decide) (by decide)) (iR_w fa1 (by decide) (by decide)) (iR_w fa2 (by decide) (by decide)) (iR_w fa3 (by decide) (by decide)) (by omega) (by omega) (by omega) (by omega) (by omega) (by omega)
          · skip
            have i302 : iR r297 (-2147483648) (7) := (iR_ltL (iR_any r297) (show iR 8 (8) (8) from ⟨by decide, by decide⟩) (Int32.not_le.mp c300) (by decide))
            refine lv_iconst (v := 1) hx hb dX7_adapt_160 (by decide) ?_
            refine lv_iload hx hb dX7_adapt_161 (lv_at hl 5 rfl) ?_
            refine lv_ishl hx hb dX7_adapt_163 ?_
            refine lv_goto (tgt := 168) hx hb dX7_adapt_164 (by decide) ?_
            exact b168_0 ls ρ _ _ j288 ((1 <<< (((nI j120_7) : Int32) &&& 31)) : Int32) (lv_sub hl [0, 1, 2, 3, 5] rfl) hP hS (PJ_RI hQ hI) (by omega) (by omega) (iR_w (iR_shl1 (c := j120_7) (by omega)) (by decide) (by decide)) (iR_w f_M__nn_a1__ (by decide) (by decide)) (iR_w fa1 (by decide) (by decide)) (iR_w fa2 (by decide) (by decide)) (iR_w fa3 (by decide) (by decide)) (by omega) (by omega) (by omega) (by omega) (by omega) (by omega)
  have b81_0 : ∀ (ls : Array Slot) (ρ : Nat → Nat → Int32) (H : Heap) (locs : List Loc) , lv_has ls 8 [(0, .ref (E.2.1 + 1076))] → WP E ρ H → va_S (hA E) s.heap H locs → PJ r M L ρ → iR (M (nn a1)) (0) (5) → iR a1 (0) (1) → iR a2 (1) (99) → iR a3 (1) (100) → 0 ≤ (nn a1) → (nn a1) ≤ 1 → 1 ≤ (nn a2) → (nn a2) ≤ 99 → W p l e (rmk 4 160) s m ([.ref (E.2.1 + 1076), .int a1, .int a2, .int a3] : List Value).toArray below meth c H locs 0 0 (MQ below (cI E (fun v ρ1 => PJ r M L ρ1)) ([.ref (E.2.1 + 1076), .int a1, .int a2, .int a3] : List Value).toArray s 0 0 (hA E)) (F0 m 81 ls []) := by
    intro ls ρ H locs  hl hP hS hI f_M__nn_a1__ fa1 fa2 fa3 tl_nn_a1_ tu_nn_a1_ tl_nn_a2_ tu_nn_a2_
    have hQ := hI.1
    have hI := PJ_I hI
    refine lv_aload_n hx hb dX7_adapt_81 rfl (lv_at hl 0 rfl) ?_
    refine lv_bipush (v := (-4)) hx hb dX7_adapt_82 (by decide) ?_
    refine call_i (cVt (k := 1076) (av := [.int (-4)]) (rest := []) B hP hS (d_X7_refuse4 l E ρ) lk_RX7_64 (hrecv (ci := 7) B hP (hk_lt (c := 7) (show hk 1076 = 7 by decide +kernel) (by decide)) (hcc7 _ _ (show hk 1076 = 7 by decide +kernel)) rfl) rfl rfl hl.1 (Nat.le_of_ble_eq_true rfl) ⟨Nat.le_of_ble_eq_true rfl, Nat.le_of_ble_eq_true rfl⟩ ⟨Nat.le_of_ble_eq_true rfl, Nat.le_of_ble_eq_true rfl⟩ dX7_adapt_84) hS (fun r303 ρ304 H locs q305 hP hS => ?_)
    have hJ2 := (show PJ r M L ρ304 from by rw [q305]; exact PJ_ref (PJ_RI hQ hI))
    have hQ := hJ2.1
    have hI := PJ_I hJ2
    exact ret_i B hr hlk hP hS dX7_adapt_87 (PJ_RI hQ hI)
  have b29_0 : ∀ (ls : Array Slot) (ρ : Nat → Nat → Int32) (H : Heap) (locs : List Loc) , lv_has ls 8 [(0, .ref (E.2.1 + 1076))] → WP E ρ H → va_S (hA E) s.heap H locs → PJ r M L ρ → W p l e (rmk 4 160) s m ([.ref (E.2.1 + 1076), .int a1, .int a2, .int a3] : List Value).toArray below meth c H locs 0 0 (MQ below (cI E (fun v ρ1 => PJ r M L ρ1)) ([.ref (E.2.1 + 1076), .int a1, .int a2, .int a3] : List Value).toArray s 0 0 (hA E)) (F0 m 29 ls []) := by
    intro ls ρ H locs  hl hP hS hI
    have hQ := hI.1
    have hI := PJ_I hI
    refine lv_aload_n hx hb dX7_adapt_29 rfl (lv_at hl 0 rfl) ?_
    refine lv_iconst (v := (-1)) hx hb dX7_adapt_30 (by decide) ?_
    refine call_i (cVt (k := 1076) (av := [.int (-1)]) (rest := []) B hP hS (d_X7_refuse1 l E ρ) lk_RX7_64 (hrecv (ci := 7) B hP (hk_lt (c := 7) (show hk 1076 = 7 by decide +kernel) (by decide)) (hcc7 _ _ (show hk 1076 = 7 by decide +kernel)) rfl) rfl rfl hl.1 (Nat.le_of_ble_eq_true rfl) ⟨Nat.le_of_ble_eq_true rfl, Nat.le_of_ble_eq_true rfl⟩ ⟨Nat.le_of_ble_eq_true rfl, Nat.le_of_ble_eq_true rfl⟩ dX7_adapt_31) hS (fun r306 ρ307 H locs q308 hP hS => ?_)
    have hJ2 := (show PJ r M L ρ307 from by rw [q308]; exact PJ_ref (PJ_RI hQ hI))
    have hQ := hJ2.1
    have hI := PJ_I hJ2
    exact ret_i B hr hlk hP hS dX7_adapt_34 (PJ_RI hQ hI)
  refine lv_aload_n hx hb dX7_adapt_0 rfl (lv_at hl 0 rfl) ?_
  refine lv_iconst (v := 0) hx hb dX7_adapt_1 (by decide) ?_
  refine put7 B hP hS (show hk 1076 = 7 by decide +kernel) 0 (by decide) mw_1027 rfl rfl rfl (fs7_0 E 1076 _ _) dX7_adapt_2 (fun H locs hP hS => ?_)
  obtain ⟨ρ309, e310⟩ : ∃ z, z = up ρ 1076 0 0 := ⟨_, rfl⟩
  rw [← e310] at hP
  have hI : RI ρ 99998 M L X0 ρ309 := by rw [e310]; exact RI_76 hI (by decide)
  refine lv_iload_n hx hb dX7_adapt_5 rfl (lv_at hl 2 rfl) ?_
  refine lv_i2l hx hb dX7_adapt_6 rfl ?_
  refine lv_lconst (v := 1) hx hb dX7_adapt_7 (by decide) ?_
  refine lv_ldc2 (v := 99) hx hb hown (hts _ mw_1242) dX7_adapt_8 ?_
  refine call_i (cS (av := [.long a2.toInt64, .long 1, .long 99]) (rest := []) B hP hS (c_in l E ρ309 a2.toInt64 1 99 1 99 (by decide) (by decide)) lk_RX7_71 rfl rfl hl.1 (Nat.le_of_ble_eq_true rfl) ⟨Nat.le_of_ble_eq_true rfl, Nat.le_of_ble_eq_true rfl⟩ ⟨Nat.le_of_ble_eq_true rfl, Nat.le_of_ble_eq_true rfl⟩ dX7_adapt_11) hS (fun r311 ρ312 H locs q313 hP hS => ?_)
  obtain ⟨rfl, q313⟩ := q313
  rcases q313 with ⟨rfl, q313⟩ | ⟨rfl, q313⟩
  · skip
    have i314 : iR a2 1 99 := (lR_i _ _ _).mp q313
    refine lv_if_eq (tgt := 29) hx hb dX7_adapt_14 (by decide) (fun c315 => absurd c315 (iR_ne (show iR 1 (1) (1) from ⟨by decide, by decide⟩) (show iR 0 (0) (0) from ⟨by decide, by decide⟩) (by decide))) (fun _ => ?_)
    refine lv_iload_n hx hb dX7_adapt_17 rfl (lv_at hl 3 rfl) ?_
    refine lv_i2l hx hb dX7_adapt_18 rfl ?_
    refine lv_lconst (v := 1) hx hb dX7_adapt_19 (by decide) ?_
    refine lv_ldc2 (v := 100) hx hb hown (hts _ mw_1233) dX7_adapt_20 ?_
    refine call_i (cS (av := [.long a3.toInt64, .long 1, .long 100]) (rest := []) B hP hS (c_in l E ρ309 a3.toInt64 1 100 1 100 (by decide) (by decide)) lk_RX7_71 rfl rfl hl.1 (Nat.le_of_ble_eq_true rfl) ⟨Nat.le_of_ble_eq_true rfl, Nat.le_of_ble_eq_true rfl⟩ ⟨Nat.le_of_ble_eq_true rfl, Nat.le_of_ble_eq_true rfl⟩ dX7_adapt_23) hS (fun r316 ρ317 H locs q318 hP hS => ?_)
    obtain ⟨rfl, q318⟩ := q318
    rcases q318 with ⟨rfl, q318⟩ | ⟨rfl, q318⟩
    · skip
      have i319 : iR a3 1 100 := (lR_i _ _ _).mp q318
      refine lv_if_ne (tgt := 35) hx hb dX7_adapt_26 (by decide) (fun _ => ?_) (fun c320 => absurd c320 (iR_ne (show iR 1 (1) (1) from ⟨by decide, by decide⟩) (show iR 0 (0) (0) from ⟨by decide, by decide⟩) (by decide)))
      refine lv_aload_n hx hb dX7_adapt_35 rfl (lv_at hl 0 rfl) ?_
      refine lv_iload_n hx hb dX7_adapt_36 rfl (lv_at hl 1 rfl) ?_
      refine call_i (cVt (k := 1076) (av := [.int a1]) (rest := []) B hP hS (d_X7_isNet l E ρ309 ρ 99998 (by decide) M L X0 a1 hI) lk_RX7_78 (hrecv (ci := 7) B hP (hk_lt (c := 7) (show hk 1076 = 7 by decide +kernel) (by decide)) (hcc7 _ _ (show hk 1076 = 7 by decide +kernel)) rfl) rfl rfl hl.1 (Nat.le_of_ble_eq_true rfl) ⟨Nat.le_of_ble_eq_true rfl, Nat.le_of_ble_eq_true rfl⟩ ⟨Nat.le_of_ble_eq_true rfl, Nat.le_of_ble_eq_true rfl⟩ dX7_adapt_37) hS (fun r321 ρ322 H locs q323 hP hS => ?_)
      obtain ⟨rfl, hI, q323⟩ := q323
      rcases q323 with rfl | ⟨rfl, j324, hj324, ej324, i325⟩
      · skip
        refine lv_if_ne (tgt := 50) hx hb dX7_adapt_40 (by decide) (fun c326 => absurd rfl c326) (fun _ => ?_)
        refine lv_aload_n hx hb dX7_adapt_43 rfl (lv_at hl 0 rfl) ?_
        refine lv_bipush (v := (-2)) hx hb dX7_adapt_44 (by decide) ?_
        refine call_i (cVt (k := 1076) (av := [.int (-2)]) (rest := []) B hP hS (d_X7_refuse2 l E ρ309) lk_RX7_64 (hrecv (ci := 7) B hP (hk_lt (c := 7) (show hk 1076 = 7 by decide +kernel) (by decide)) (hcc7 _ _ (show hk 1076 = 7 by decide +kernel)) rfl) rfl rfl hl.1 (Nat.le_of_ble_eq_true rfl) ⟨Nat.le_of_ble_eq_true rfl, Nat.le_of_ble_eq_true rfl⟩ ⟨Nat.le_of_ble_eq_true rfl, Nat.le_of_ble_eq_true rfl⟩ dX7_adapt_46) hS (fun r327 ρ328 H locs q329 hP hS => ?_)
        have hJ2 := (show PJ r M L ρ328 from by rw [q329]; exact PJ_ref (PJ_RI hQ hI))
        have hQ := hJ2.1
        have hI := PJ_I hJ2
        exact ret_i B hr hlk hP hS dX7_adapt_49 (PJ_RI hQ hI)
      · skip
        have n330 : nn a1 = j324 := nn_u ej324 (by omega)
        have i331 : iR (M (nn a1)) 0 5 := by rw [n330]; exact i325
        refine lv_if_ne (tgt := 50) hx hb dX7_adapt_40 (by decide) (fun _ => ?_) (fun c332 => absurd c332 (iR_ne (show iR 1 (1) (1) from ⟨by decide, by decide⟩) (show iR 0 (0) (0) from ⟨by decide, by decide⟩) (by decide)))
        refine lv_iload_n hx hb dX7_adapt_50 rfl (lv_at hl 1 rfl) ?_
        refine lv_topi (fun z333 ez333 => ?_)
        obtain rfl : z333 = nI (nn a1) := ez333.trans (nn_eq a1)
        refine call_i (cS (av := [.int (nI (nn a1))]) (rest := []) B hP hS (d_X7_netAt l E ρ309 ρ 99998 (by decide) M L X0 (nn a1) (by omega) (by omega) hI) lk_RX7_75 rfl rfl hl.1 (Nat.le_of_ble_eq_true rfl) ⟨Nat.le_of_ble_eq_true rfl, Nat.le_of_ble_eq_true rfl⟩ ⟨Nat.le_of_ble_eq_true rfl, Nat.le_of_ble_eq_true rfl⟩ dX7_adapt_51) hS (fun r334 ρ335 H locs q336 hP hS => ?_)
        obtain ⟨rfl, hI, q336⟩ := q336
        obtain rfl : r334 = nI (42 + 326 * (nn a1)) := q336.trans (congrArg nI (by omega))
        refine lv_istore (lv' := [(4, .int (nI (42 + 326 * (nn a1)))), (0, .ref (E.2.1 + 1076)), (1, .int a1), (2, .int a2), (3, .int a3)]) hx hb dX7_adapt_54 hl (by decide) rfl (fun ls hl => ?_)
        refine lv_aload_n hx hb dX7_adapt_56 rfl (lv_at hl 1 rfl) ?_
        refine lv_iload_n hx hb dX7_adapt_57 rfl (lv_at hl 2 rfl) ?_
        refine lv_topi (fun z337 ez337 => ?_)
        obtain rfl : z337 = nI (nn a1) := ez337.trans (nn_eq a1)
        refine lv_iload_n hx hb dX7_adapt_58 rfl (lv_at hl 3 rfl) ?_
        have := nn_r (x := a2) (a := 1) (b := 99) i314 (by decide)
        refine lv_topi (fun z338 ez338 => ?_)
        obtain rfl : z338 = nI (nn a2) := ez338.trans (nn_eq a2)
        refine call_i (cVt (k := 1076) (av := [.int (nI (nn a1)), .int (nI (nn a2))]) (rest := []) B hP hS (d_X7_badOf l E ρ309 ρ 99998 (by decide) M L X0 (nn a1) (by omega) (by omega) (nI (nn a2)) hI) lk_RX7_164 (hrecv (ci := 7) B hP (hk_lt (c := 7) (show hk 1076 = 7 by decide +kernel) (by decide)) (hcc7 _ _ (show hk 1076 = 7 by decide +kernel)) rfl) rfl rfl hl.1 (Nat.le_of_ble_eq_true rfl) ⟨Nat.le_of_ble_eq_true rfl, Nat.le_of_ble_eq_true rfl⟩ ⟨Nat.le_of_ble_eq_true rfl, Nat.le_of_ble_eq_true rfl⟩ dX7_adapt_59) hS (fun r339 ρ340 H locs q341 hP hS => ?_)
        obtain ⟨rfl, hI⟩ := q341
        refine lv_istore (lv' := [(5, .int r339), (4, .int (nI (42 + 326 * (nn a1)))), (0, .ref (E.2.1 + 1076)), (1, .int a1), (2, .int a2), (3, .int a3)]) hx hb dX7_adapt_62 hl (by decide) rfl (fun ls hl => ?_)
        refine lv_aload_n hx hb dX7_adapt_64 rfl (lv_at hl 2 rfl) ?_
        refine get7 B hP (show hk 1076 = 7 by decide +kernel) 3 (by decide) mw_1030 rfl dX7_adapt_65 ?_
        refine lv_iload hx hb dX7_adapt_68 (lv_at hl 1 rfl) ?_
        refine lv_iconst (v := 3) hx hb dX7_adapt_70 (by decide) ?_
        refine lv_iadd hx hb dX7_adapt_71 ?_
        refine lv_topi (fun z342 ez342 => ?_)
        obtain rfl : z342 = (nI (45 + 326 * (nn a1))) := ez342.trans (by rw [show (nI (42 + 326 * (nn a1))) = nI (42 + 326 * (nn a1)) from rfl, show 3 = nI 3 from rfl, nI_add] <;> exact congrArg nI (by omega))
        refine aldn (n := 695) (j := (45 + 326 * (nn a1))) B hP (show hk 1078 = 8 by decide +kernel) (show hlen 1078 = 695 by decide +kernel) rfl (by omega) (by decide) dX7_adapt_72 ?_
        have i343 : iR (ρ309 1078 (45 + 326 * (nn a1))) (0) (8388607) := g_next (n0 := (nn a1)) (j := (45 + 326 * (nn a1))) hI (by omega) (by omega)
        obtain ⟨j344, lj344, uj344, ej344⟩ := iR_nat (a := 0) (b := 8388607) i343
        refine lv_topi (fun z345 ez345 => ?_)
        obtain rfl : z345 = nI j344 := ez345.trans ej344
        refine lv_if_ne (tgt := 81) hx hb dX7_adapt_73 (by decide) (fun c346 => ?_) (fun c346 => ?_)
        · skip
          have n347 := mt (nI_eq (a := j344) (b := 0) (by omega) (by omega)).mpr (show ¬ (nI j344 = nI 0) from c346)
          exact b81_0 ls ρ309 _ _  (lv_sub hl [2] rfl) hP hS (PJ_RI hQ hI) (iR_w i331 (by decide) (by decide)) (iR_w (show iR a1 0 1 from by rw [ej324]; exact nI_iR (by omega) (by omega) (by omega)) (by decide) (by decide)) (iR_w i314 (by decide) (by decide)) (iR_w i319 (by decide) (by decide)) (by omega) (by omega) (by omega) (by omega)
        · skip
          have n348 := (nI_eq (a := j344) (b := 0) (by omega) (by omega)).mp (show (nI j344 = nI 0) from c346)
          refine lv_iload hx hb dX7_adapt_76 (lv_at hl 0 rfl) ?_
          refine lv_if_ne (tgt := 88) hx hb dX7_adapt_78 (by decide) (fun c349 => ?_) (fun c349 => ?_)
          · skip
            refine lv_aload_n hx hb dX7_adapt_88 rfl (lv_at hl 2 rfl) ?_
            refine get7 B hP (show hk 1076 = 7 by decide +kernel) 3 (by decide) mw_1030 rfl dX7_adapt_89 ?_
            refine lv_iload hx hb dX7_adapt_92 (lv_at hl 1 rfl) ?_
            refine lv_iconst (v := 2) hx hb dX7_adapt_94 (by decide) ?_
            refine lv_iadd hx hb dX7_adapt_95 ?_
            refine lv_topi (fun z350 ez350 => ?_)
            obtain rfl : z350 = (nI (44 + 326 * (nn a1))) := ez350.trans (by rw [show (nI (42 + 326 * (nn a1))) = nI (42 + 326 * (nn a1)) from rfl, show 2 = nI 2 from rfl, nI_add] <;> exact congrArg nI (by omega))
            refine aldn (n := 695) (j := (44 + 326 * (nn a1))) B hP (show hk 1078 = 8 by decide +kernel) (show hlen 1078 = 695 by decide +kernel) rfl (by omega) (by decide) dX7_adapt_96 ?_
            have i351 : iR (ρ309 1078 (44 + 326 * (nn a1))) (1) (8388607) := g_map (n0 := (nn a1)) (j := (44 + 326 * (nn a1))) hI (by omega) i331 (by omega)
            obtain ⟨j352, lj352, uj352, ej352⟩ := iR_nat (a := 1) (b := 8388607) i351
            refine lv_topi (fun z353 ez353 => ?_)
            obtain rfl : z353 = nI j352 := ez353.trans ej352
            refine lv_iload hx hb dX7_adapt_97 (lv_at hl 0 rfl) ?_
            refine lv_iconst (v := (-1)) hx hb dX7_adapt_99 (by decide) ?_
            refine lv_ixor hx hb dX7_adapt_100 ?_
            refine lv_iand hx hb dX7_adapt_101 ?_
            refine lv_istore (lv' := [(6, .int ((nI j352) &&& (r339 ^^^ (-1)))), (5, .int r339), (4, .int (nI (42 + 326 * (nn a1)))), (0, .ref (E.2.1 + 1076)), (1, .int a1), (2, .int a2), (3, .int a3)]) hx hb dX7_adapt_102 hl (by decide) rfl (fun ls hl => ?_)
            refine lv_iload hx hb dX7_adapt_104 (lv_at hl 0 rfl) ?_
            obtain ⟨j354, lj354, uj354, ej354⟩ := iR_nat (a := 0) (b := 8388607) (iR_andL (nI_iR (j := j352) (a := 1) (b := 8388607) (by omega) (by omega) (by omega)) (by decide))
            refine lv_topi (fun z355 ez355 => ?_)
            obtain rfl : z355 = nI j354 := ez355.trans ej354
            refine call_i (cS (av := [.int (nI j354)]) (rest := []) B hP hS (c_bits l E ρ309 j354 (by omega)) lk_RX7_93 rfl rfl hl.1 (Nat.le_of_ble_eq_true rfl) ⟨Nat.le_of_ble_eq_true rfl, Nat.le_of_ble_eq_true rfl⟩ ⟨Nat.le_of_ble_eq_true rfl, Nat.le_of_ble_eq_true rfl⟩ dX7_adapt_106) hS (fun r356 ρ357 H locs q358 hP hS => ?_)
            obtain ⟨rfl, rfl⟩ := q358
            have := pcc_le j354
            refine lv_bipush (v := 8) hx hb dX7_adapt_109 (by decide) ?_
            refine lv_icmp_ge (tgt := 177) hx hb dX7_adapt_111 (by decide) (fun c359 => ?_) (fun c359 => ?_)
            · skip
              have n360 := mt (nx_lt (a := (pcc j354)) (b := 8) (by omega) (by omega)).mpr (show ¬ (nI (pcc j354) < nI 8) from (Int32.not_lt.mpr c359))
              exact b177_0 ls ρ309 _ _ (((nI j352) &&& (r339 ^^^ (-1))) : Int32) (lv_sub hl [3, 4, 6, 0] rfl) hP hS (PJ_RI hQ hI) (iR_w (iR_andL (nI_iR (j := j352) (a := 1) (b := 8388607) (by omega) (by omega) (by omega)) (by decide)) (by decide) (by decide)) (iR_w i331 (by decide) (by decide)) (iR_w (show iR a1 0 1 from by rw [ej324]; exact nI_iR (by omega) (by omega) (by omega)) (by decide) (by decide)) (iR_w i314 (by decide) (by decide)) (iR_w i319 (by decide) (by decide)) (by omega) (by omega) (by omega) (by omega)
            · skip
              have n361 := (nx_lt (a := (pcc j354)) (b := 8) (by omega) (by omega)).mp (show (nI (pcc j354) < nI 8) from (Int32.not_le.mp c359))
              refine lv_iconst (v := 0) hx hb dX7_adapt_114 (by decide) ?_
              refine lv_istore (lv' := [(6, .int 0), (5, .int r339), (4, .int (nI (42 + 326 * (nn a1)))), (0, .ref (E.2.1 + 1076)), (1, .int a1), (2, .int a2), (3, .int a3)]) hx hb dX7_adapt_115 hl (by decide) rfl (fun ls hl => ?_)
              refine lv_iconst (v := 0) hx hb dX7_adapt_117 (by decide) ?_
              refine lv_istore (lv' := [(7, .int 0), (6, .int 0), (5, .int r339), (4, .int (nI (42 + 326 * (nn a1)))), (0, .ref (E.2.1 + 1076)), (1, .int a1), (2, .int a2), (3, .int a3)]) hx hb dX7_adapt_118 hl (by decide) rfl (fun ls hl => ?_)
              exact b120_0 ls ρ309 _ _ _ (0 : Int32) 0 (lv_sub hl [4, 5, 7, 3, 1, 0] rfl) hP hS (PJ_RI hQ hI) (Nat.lt_succ_self _) (iR_w (show iR 0 (0) (0) from ⟨by decide, by decide⟩) (by decide) (by decide)) (by omega) (by omega) (iR_w i331 (by decide) (by decide)) (iR_w (show iR a1 0 1 from by rw [ej324]; exact nI_iR (by omega) (by omega) (by omega)) (by decide) (by decide)) (iR_w i314 (by decide) (by decide)) (iR_w i319 (by decide) (by decide)) (by omega) (by omega) (by omega) (by omega)
          · skip
            have i362 : iR r339 (0) (0) := (by rw [c349]; exact ⟨by decide, by decide⟩)
            exact b81_0 ls ρ309 _ _  (lv_sub hl [2] rfl) hP hS (PJ_RI hQ hI) (iR_w i331 (by decide) (by decide)) (iR_w (show iR a1 0 1 from by rw [ej324]; exact nI_iR (by omega) (by omega) (by omega)) (by decide) (by decide)) (iR_w i314 (by decide) (by decide)) (iR_w i319 (by decide) (by decide)) (by omega) (by omega) (by omega) (by omega)
    · skip
      refine lv_if_ne (tgt := 35) hx hb dX7_adapt_26 (by decide) (fun c363 => absurd rfl c363) (fun _ => ?_)
      exact b29_0 ls ρ309 _ _  (lv_sub hl [0] rfl) hP hS (PJ_RI hQ hI) 
  · skip
    refine lv_if_eq (tgt := 29) hx hb dX7_adapt_14 (by decide) (fun _ => ?_) (fun c364 => absurd rfl c364)
    exact b29_0 ls ρ309 _ _  (lv_sub hl [0] rfl) hP hS (PJ_RI hQ hI) 

theorem lk_RX7_242 : LkV RX7 242 RX7 yX7_turnsBy cX7_turnsBy 3 none 1 := ⟨⟨mw_1257, mw_1259, mw_22, mw_59, mw_1260⟩, by decide +kernel⟩
set_option maxHeartbeats 4000000 in
set_option maxRecDepth 100000 in
theorem d_X7_run (l : Launch) (E : hE) (ρ r : Nat → Nat → Int32) (M : Nat → Int32) (L : Nat → Nat) (hJ : PJ r M L ρ) (a1 : Int32) : Met l yX7_run (.code yX7_run cX7_run 2 (some .int) :: gw_all) (rmk 11 440) (cPre E ρ [.ref (E.2.1 + 1076), .int a1]) (cI E (fun v ρ1 => PJ r M L ρ1)) 0 0 (hA E) := by
  refine ent (own := RX7) (by decide) rfl (Nat.le_of_ble_eq_true rfl) ?_
  intro p e s m below meth c ls B hr hlk hl hP hS
  have hx := B.1.1
  have hb := B.1.2.1
  have hown := B.1.2.2.2.1
  have hts := B.1.2.2.2.2
  have hl : lv_has ls 2 [(0, .ref (E.2.1 + 1076)), (1, .int a1)] := hl
  have hQ := hJ.1
  have hI := PJ_I hJ
  refine lv_aload_n hx hb dX7_run_0 rfl (lv_at hl 0 rfl) ?_
  refine lv_iconst (v := 0) hx hb dX7_run_1 (by decide) ?_
  refine put7 B hP hS (show hk 1076 = 7 by decide +kernel) 0 (by decide) mw_1027 rfl rfl rfl (fs7_0 E 1076 _ _) dX7_run_2 (fun H locs hP hS => ?_)
  obtain ⟨ρ35, e36⟩ : ∃ z, z = up ρ 1076 0 0 := ⟨_, rfl⟩
  rw [← e36] at hP
  have hI : RI ρ 99998 M L X0 ρ35 := by rw [e36]; exact RI_76 hI (by decide)
  refine lv_iload_n hx hb dX7_run_5 rfl (lv_at hl 1 rfl) ?_
  refine lv_i2l hx hb dX7_run_6 rfl ?_
  refine lv_lconst (v := 1) hx hb dX7_run_7 (by decide) ?_
  refine lv_ldc2 (v := 200) hx hb hown (hts _ mw_1255) dX7_run_8 ?_
  refine call_i (cS (av := [.long a1.toInt64, .long 1, .long 200]) (rest := []) B hP hS (c_in l E ρ35 a1.toInt64 1 200 1 200 (by decide) (by decide)) lk_RX7_71 rfl rfl hl.1 (Nat.le_of_ble_eq_true rfl) ⟨Nat.le_of_ble_eq_true rfl, Nat.le_of_ble_eq_true rfl⟩ ⟨Nat.le_of_ble_eq_true rfl, Nat.le_of_ble_eq_true rfl⟩ dX7_run_11) hS (fun r37 ρ38 H locs q39 hP hS => ?_)
  obtain ⟨rfl, q39⟩ := q39
  rcases q39 with ⟨rfl, q39⟩ | ⟨rfl, q39⟩
  · skip
    have i40 : iR a1 1 200 := (lR_i _ _ _).mp q39
    refine lv_if_ne (tgt := 23) hx hb dX7_run_14 (by decide) (fun _ => ?_) (fun c41 => absurd c41 (iR_ne (show iR 1 (1) (1) from ⟨by decide, by decide⟩) (show iR 0 (0) (0) from ⟨by decide, by decide⟩) (by decide)))
    refine lv_aload_n hx hb dX7_run_23 rfl (lv_at hl 0 rfl) ?_
    refine get7 B hP (show hk 1076 = 7 by decide +kernel) 3 (by decide) mw_1030 rfl dX7_run_24 ?_
    refine lv_bipush (v := 7) hx hb dX7_run_27 (by decide) ?_
    refine aldn (n := 695) (j := 7) B hP (show hk 1078 = 8 by decide +kernel) (show hlen 1078 = 695 by decide +kernel) rfl (by omega) (by decide) dX7_run_29 ?_
    have i42 : iR (ρ35 1078 7) (0) (1000000) := (iR_w (g_time hI) (by omega) (by omega))
    obtain ⟨j43, lj43, uj43, ej43⟩ := iR_nat (a := 0) (b := 1000000) i42
    refine lv_topi (fun z44 ez44 => ?_)
    obtain rfl : z44 = nI j43 := ez44.trans ej43
    refine lv_iconst (v := 2) hx hb dX7_run_30 (by decide) ?_
    refine lv_iload_n hx hb dX7_run_31 rfl (lv_at hl 1 rfl) ?_
    have := nn_r (x := a1) (a := 1) (b := 200) i40 (by decide)
    refine lv_topi (fun z45 ez45 => ?_)
    obtain rfl : z45 = nI (nn a1) := ez45.trans (nn_eq a1)
    refine lv_imul hx hb dX7_run_32 ?_
    refine lv_topi (fun z46 ez46 => ?_)
    obtain rfl : z46 = (nI (2 * (nn a1))) := ez46.trans (by rw [show 2 = nI 2 from rfl, show (nI (nn a1)) = nI (nn a1) from rfl, nI_mul] <;> exact congrArg nI (by omega))
    refine lv_iadd hx hb dX7_run_33 ?_
    refine lv_topi (fun z47 ez47 => ?_)
    obtain rfl : z47 = (nI (2 * (nn a1) + j43)) := ez47.trans (by rw [show (nI j43) = nI j43 from rfl, show (nI (2 * (nn a1))) = nI (2 * (nn a1)) from rfl, nI_add] <;> exact congrArg nI (by omega))
    refine lv_ldc (v := 99998) hx hb hown (hts _ mw_1256) dX7_run_34 ?_
    refine lv_icmp_le (tgt := 46) hx hb dX7_run_36 (by decide) (fun c48 => ?_) (fun c48 => ?_)
    · skip
      have n49 := mt (nx_lt (a := 99998) (b := (2 * (nn a1) + j43)) (by omega) (by omega)).mpr (show ¬ (nI 99998 < nI (2 * (nn a1) + j43)) from (Int32.not_lt.mpr c48))
      refine lv_aload_n hx hb dX7_run_46 rfl (lv_at hl 0 rfl) ?_
      refine lv_bipush (v := 9) hx hb dX7_run_47 (by decide) ?_
      refine call_v (cVt (k := 1076) (av := [.int 9]) (rest := []) B hP hS (d_X7_remember l E ρ35 r M L (PJ_RI hQ hI) ρ35 rfl 9) lk_RX7_118 (hrecv (ci := 7) B hP (hk_lt (c := 7) (show hk 1076 = 7 by decide +kernel) (by decide)) (hcc7 _ _ (show hk 1076 = 7 by decide +kernel)) rfl) rfl rfl hl.1 (Nat.le_of_ble_eq_true rfl) ⟨Nat.le_of_ble_eq_true rfl, Nat.le_of_ble_eq_true rfl⟩ ⟨Nat.le_of_ble_eq_true rfl, Nat.le_of_ble_eq_true rfl⟩ dX7_run_49) hS (fun ρ51 H locs q52 hP hS => ?_)
      obtain ⟨hJ2, hrow53⟩ := q52
      have hJ2 := hJ2
      have hQ := hJ2.1
      have hI := PJ_I hJ2
      refine lv_aload_n hx hb dX7_run_52 rfl (lv_at hl 0 rfl) ?_
      refine lv_iload_n hx hb dX7_run_53 rfl (lv_at hl 1 rfl) ?_
      refine lv_topi (fun z54 ez54 => ?_)
      obtain rfl : z54 = nI (nn a1) := ez54.trans (nn_eq a1)
      refine call_v (cVt (k := 1076) (av := [.int (nI (nn a1))]) (rest := []) B hP hS (d_X7_turnsBy l E ρ51 ρ51 j43 (by omega) M L (nn a1) (by omega) (by omega) (PJ_TI (PI_RI hQ hI) (Good_tight (j := j43) hI.2.2 ((congrFun hrow53 _).trans ej43) (by omega))) (by omega)) lk_RX7_242 (hrecv (ci := 7) B hP (hk_lt (c := 7) (show hk 1076 = 7 by decide +kernel) (by decide)) (hcc7 _ _ (show hk 1076 = 7 by decide +kernel)) rfl) rfl rfl hl.1 (Nat.le_of_ble_eq_true rfl) ⟨Nat.le_of_ble_eq_true rfl, Nat.le_of_ble_eq_true rfl⟩ ⟨Nat.le_of_ble_eq_true rfl, Nat.le_of_ble_eq_true rfl⟩ dX7_run_54) hS (fun ρ56 H locs q57 hP hS => ?_)
      have hJ2 := PJ_run (PI_RI hQ hI) q57 (by omega)
      have hQ := hJ2.1
      have hI := PJ_I hJ2
      refine lv_aload_n hx hb dX7_run_57 rfl (lv_at hl 0 rfl) ?_
      refine lv_aload_n hx hb dX7_run_58 rfl (lv_at hl 0 rfl) ?_
      refine get7 B hP (show hk 1076 = 7 by decide +kernel) 16 (by decide) mw_1043 rfl dX7_run_59 ?_
      refine call_i (cVt (k := 1076) (av := [.int (ρ56 1076 16)]) (rest := []) B hP hS (d_X7_tell l E ρ56 (ρ56 1076 16)) lk_RX7_68 (hrecv (ci := 7) B hP (hk_lt (c := 7) (show hk 1076 = 7 by decide +kernel) (by decide)) (hcc7 _ _ (show hk 1076 = 7 by decide +kernel)) rfl) rfl rfl hl.1 (Nat.le_of_ble_eq_true rfl) ⟨Nat.le_of_ble_eq_true rfl, Nat.le_of_ble_eq_true rfl⟩ ⟨Nat.le_of_ble_eq_true rfl, Nat.le_of_ble_eq_true rfl⟩ dX7_run_62) hS (fun r58 ρ59 H locs q60 hP hS => ?_)
      have hI : RI ρ56 99998 M L X0 ρ59 := by rw [q60]; exact RI_76 hI (by decide)
      exact ret_i B hr hlk hP hS dX7_run_65 (PJ_RI hQ hI)
    · skip
      have n61 := (nx_lt (a := 99998) (b := (2 * (nn a1) + j43)) (by omega) (by omega)).mp (show (nI 99998 < nI (2 * (nn a1) + j43)) from (Int32.not_le.mp c48))
      refine lv_aload_n hx hb dX7_run_39 rfl (lv_at hl 0 rfl) ?_
      refine lv_bipush (v := (-4)) hx hb dX7_run_40 (by decide) ?_
      refine call_i (cVt (k := 1076) (av := [.int (-4)]) (rest := []) B hP hS (d_X7_refuse4 l E ρ35) lk_RX7_64 (hrecv (ci := 7) B hP (hk_lt (c := 7) (show hk 1076 = 7 by decide +kernel) (by decide)) (hcc7 _ _ (show hk 1076 = 7 by decide +kernel)) rfl) rfl rfl hl.1 (Nat.le_of_ble_eq_true rfl) ⟨Nat.le_of_ble_eq_true rfl, Nat.le_of_ble_eq_true rfl⟩ ⟨Nat.le_of_ble_eq_true rfl, Nat.le_of_ble_eq_true rfl⟩ dX7_run_42) hS (fun r62 ρ63 H locs q64 hP hS => ?_)
      have hJ2 := (show PJ r M L ρ63 from by rw [q64]; exact PJ_ref (PJ_RI hQ hI))
      have hQ := hJ2.1
      have hI := PJ_I hJ2
      exact ret_i B hr hlk hP hS dX7_run_45 (PJ_RI hQ hI)
  · skip
    refine lv_if_ne (tgt := 23) hx hb dX7_run_14 (by decide) (fun c65 => absurd rfl c65) (fun _ => ?_)
    refine lv_aload_n hx hb dX7_run_17 rfl (lv_at hl 0 rfl) ?_
    refine lv_iconst (v := (-1)) hx hb dX7_run_18 (by decide) ?_
    refine call_i (cVt (k := 1076) (av := [.int (-1)]) (rest := []) B hP hS (d_X7_refuse1 l E ρ35) lk_RX7_64 (hrecv (ci := 7) B hP (hk_lt (c := 7) (show hk 1076 = 7 by decide +kernel) (by decide)) (hcc7 _ _ (show hk 1076 = 7 by decide +kernel)) rfl) rfl rfl hl.1 (Nat.le_of_ble_eq_true rfl) ⟨Nat.le_of_ble_eq_true rfl, Nat.le_of_ble_eq_true rfl⟩ ⟨Nat.le_of_ble_eq_true rfl, Nat.le_of_ble_eq_true rfl⟩ dX7_run_19) hS (fun r66 ρ67 H locs q68 hP hS => ?_)
    have hJ2 := (show PJ r M L ρ67 from by rw [q68]; exact PJ_ref (PJ_RI hQ hI))
    have hQ := hJ2.1
    have hI := PJ_I hJ2
    exact ret_i B hr hlk hP hS dX7_run_22 (PJ_RI hQ hI)
