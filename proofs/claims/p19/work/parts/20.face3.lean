theorem dX6_odds_0 : decode cX6_odds 0 = .ok (.aload_n 0, 1) := by decide +kernel
theorem dX6_odds_1 : decode cX6_odds 1 = .ok (.getfield 12, 3) := by decide +kernel
theorem dX6_odds_4 : decode cX6_odds 4 = .ok (.iload_n 1, 1) := by decide +kernel
theorem dX6_odds_5 : decode cX6_odds 5 = .ok (.iload_n 2, 1) := by decide +kernel
theorem dX6_odds_6 : decode cX6_odds 6 = .ok (.invokevirtual 132, 3) := by decide +kernel
theorem dX6_odds_9 : decode cX6_odds 9 = .ok (.astore 5, 2) := by decide +kernel
theorem dX6_odds_11 : decode cX6_odds 11 = .ok (.aload 5, 2) := by decide +kernel
theorem dX6_odds_13 : decode cX6_odds 13 = .ok (.ifnull 23, 3) := by decide +kernel
theorem dX6_odds_16 : decode cX6_odds 16 = .ok (.iload_n 3, 1) := by decide +kernel
theorem dX6_odds_17 : decode cX6_odds 17 = .ok (.iconst 1, 1) := by decide +kernel
theorem dX6_odds_18 : decode cX6_odds 18 = .ok (.bipush 64, 2) := by decide +kernel
theorem dX6_odds_20 : decode cX6_odds 20 = .ok (.invokestatic 54, 3) := by decide +kernel
theorem dX6_odds_23 : decode cX6_odds 23 = .ok (.ifCond .eq 13, 3) := by decide +kernel
theorem dX6_odds_26 : decode cX6_odds 26 = .ok (.iload 4, 2) := by decide +kernel
theorem dX6_odds_28 : decode cX6_odds 28 = .ok (.iconst 0, 1) := by decide +kernel
theorem dX6_odds_29 : decode cX6_odds 29 = .ok (.iconst 1, 1) := by decide +kernel
theorem dX6_odds_30 : decode cX6_odds 30 = .ok (.invokestatic 54, 3) := by decide +kernel
theorem dX6_odds_33 : decode cX6_odds 33 = .ok (.ifCond .ne 5, 3) := by decide +kernel
theorem dX6_odds_36 : decode cX6_odds 36 = .ok (.iconst (-1), 1) := by decide +kernel
theorem dX6_odds_37 : decode cX6_odds 37 = .ok (.ireturn, 1) := by decide +kernel
theorem dX6_odds_38 : decode cX6_odds 38 = .ok (.iconst 0, 1) := by decide +kernel
theorem dX6_odds_39 : decode cX6_odds 39 = .ok (.istore 6, 2) := by decide +kernel
theorem dX6_odds_41 : decode cX6_odds 41 = .ok (.iconst 0, 1) := by decide +kernel
theorem dX6_odds_42 : decode cX6_odds 42 = .ok (.istore 7, 2) := by decide +kernel
theorem dX6_odds_44 : decode cX6_odds 44 = .ok (.iload 7, 2) := by decide +kernel
theorem dX6_odds_46 : decode cX6_odds 46 = .ok (.iload_n 3, 1) := by decide +kernel
theorem dX6_odds_47 : decode cX6_odds 47 = .ok (.if_icmp .ge 55, 3) := by decide +kernel
theorem dX6_odds_50 : decode cX6_odds 50 = .ok (.aload_n 0, 1) := by decide +kernel
theorem dX6_odds_51 : decode cX6_odds 51 = .ok (.getfield 12, 3) := by decide +kernel
theorem dX6_odds_54 : decode cX6_odds 54 = .ok (.getfield 102, 3) := by decide +kernel
theorem dX6_odds_57 : decode cX6_odds 57 = .ok (.iconst 2, 1) := by decide +kernel
theorem dX6_odds_58 : decode cX6_odds 58 = .ok (.iload 7, 2) := by decide +kernel
theorem dX6_odds_60 : decode cX6_odds 60 = .ok (.imul, 1) := by decide +kernel
theorem dX6_odds_61 : decode cX6_odds 61 = .ok (.iadd, 1) := by decide +kernel
theorem dX6_odds_62 : decode cX6_odds 62 = .ok (.istore 8, 2) := by decide +kernel
theorem dX6_odds_64 : decode cX6_odds 64 = .ok (.iload 6, 2) := by decide +kernel
theorem dX6_odds_66 : decode cX6_odds 66 = .ok (.aload_n 0, 1) := by decide +kernel
theorem dX6_odds_67 : decode cX6_odds 67 = .ok (.getfield 12, 3) := by decide +kernel
theorem dX6_odds_70 : decode cX6_odds 70 = .ok (.iload_n 1, 1) := by decide +kernel
theorem dX6_odds_71 : decode cX6_odds 71 = .ok (.aload 5, 2) := by decide +kernel
theorem dX6_odds_73 : decode cX6_odds 73 = .ok (.iload 8, 2) := by decide +kernel
theorem dX6_odds_75 : decode cX6_odds 75 = .ok (.invokevirtual 325, 3) := by decide +kernel
theorem dX6_odds_78 : decode cX6_odds 78 = .ok (.aload_n 0, 1) := by decide +kernel
theorem dX6_odds_79 : decode cX6_odds 79 = .ok (.getfield 12, 3) := by decide +kernel
theorem dX6_odds_82 : decode cX6_odds 82 = .ok (.iload_n 1, 1) := by decide +kernel
theorem dX6_odds_83 : decode cX6_odds 83 = .ok (.aload 5, 2) := by decide +kernel
theorem dX6_odds_85 : decode cX6_odds 85 = .ok (.iload 8, 2) := by decide +kernel
theorem dX6_odds_87 : decode cX6_odds 87 = .ok (.iconst 1, 1) := by decide +kernel
theorem dX6_odds_88 : decode cX6_odds 88 = .ok (.iadd, 1) := by decide +kernel
theorem dX6_odds_89 : decode cX6_odds 89 = .ok (.invokevirtual 325, 3) := by decide +kernel
theorem dX6_odds_92 : decode cX6_odds 92 = .ok (.imul, 1) := by decide +kernel
theorem dX6_odds_93 : decode cX6_odds 93 = .ok (.iadd, 1) := by decide +kernel
theorem dX6_odds_94 : decode cX6_odds 94 = .ok (.istore 6, 2) := by decide +kernel
theorem dX6_odds_96 : decode cX6_odds 96 = .ok (.iinc 7 1, 3) := by decide +kernel
theorem dX6_odds_99 : decode cX6_odds 99 = .ok (.goto (-55), 3) := by decide +kernel
theorem dX6_odds_102 : decode cX6_odds 102 = .ok (.sipush 256, 3) := by decide +kernel
theorem dX6_odds_105 : decode cX6_odds 105 = .ok (.iload_n 3, 1) := by decide +kernel
theorem dX6_odds_106 : decode cX6_odds 106 = .ok (.imul, 1) := by decide +kernel
theorem dX6_odds_107 : decode cX6_odds 107 = .ok (.istore 7, 2) := by decide +kernel
theorem dX6_odds_109 : decode cX6_odds 109 = .ok (.iload 7, 2) := by decide +kernel
theorem dX6_odds_111 : decode cX6_odds 111 = .ok (.iload 6, 2) := by decide +kernel
theorem dX6_odds_113 : decode cX6_odds 113 = .ok (.invokestatic 329, 3) := by decide +kernel
theorem dX6_odds_116 : decode cX6_odds 116 = .ok (.istore 8, 2) := by decide +kernel
theorem dX6_odds_118 : decode cX6_odds 118 = .ok (.iload 8, 2) := by decide +kernel
theorem dX6_odds_120 : decode cX6_odds 120 = .ok (.ifCond .ne 7, 3) := by decide +kernel
theorem dX6_odds_123 : decode cX6_odds 123 = .ok (.iconst (-1), 1) := by decide +kernel
theorem dX6_odds_124 : decode cX6_odds 124 = .ok (.goto 18, 3) := by decide +kernel
theorem dX6_odds_127 : decode cX6_odds 127 = .ok (.iload 4, 2) := by decide +kernel
theorem dX6_odds_129 : decode cX6_odds 129 = .ok (.ifCond .ne 8, 3) := by decide +kernel
theorem dX6_odds_132 : decode cX6_odds 132 = .ok (.iload 6, 2) := by decide +kernel
theorem dX6_odds_134 : decode cX6_odds 134 = .ok (.goto 5, 3) := by decide +kernel
theorem dX6_odds_137 : decode cX6_odds 137 = .ok (.iload 7, 2) := by decide +kernel
theorem dX6_odds_139 : decode cX6_odds 139 = .ok (.iload 8, 2) := by decide +kernel
theorem dX6_odds_141 : decode cX6_odds 141 = .ok (.idiv, 1) := by decide +kernel
theorem dX6_odds_142 : decode cX6_odds 142 = .ok (.ireturn, 1) := by decide +kernel
theorem dX6_clashes_0 : decode cX6_clashes 0 = .ok (.aload_n 0, 1) := by decide +kernel
theorem dX6_clashes_1 : decode cX6_clashes 1 = .ok (.getfield 12, 3) := by decide +kernel
theorem dX6_clashes_4 : decode cX6_clashes 4 = .ok (.invokevirtual 259, 3) := by decide +kernel
theorem dX6_clashes_7 : decode cX6_clashes 7 = .ok (.ifCond .eq 14, 3) := by decide +kernel
theorem dX6_clashes_10 : decode cX6_clashes 10 = .ok (.iload_n 1, 1) := by decide +kernel
theorem dX6_clashes_11 : decode cX6_clashes 11 = .ok (.iconst 1, 1) := by decide +kernel
theorem dX6_clashes_12 : decode cX6_clashes 12 = .ok (.sipush 512, 3) := by decide +kernel
theorem dX6_clashes_15 : decode cX6_clashes 15 = .ok (.invokestatic 54, 3) := by decide +kernel
theorem dX6_clashes_18 : decode cX6_clashes 18 = .ok (.ifCond .ne 5, 3) := by decide +kernel
theorem dX6_clashes_21 : decode cX6_clashes 21 = .ok (.iconst (-1), 1) := by decide +kernel
theorem dX6_clashes_22 : decode cX6_clashes 22 = .ok (.ireturn, 1) := by decide +kernel
theorem dX6_clashes_23 : decode cX6_clashes 23 = .ok (.iconst 0, 1) := by decide +kernel
theorem dX6_clashes_24 : decode cX6_clashes 24 = .ok (.istore_n 2, 1) := by decide +kernel
theorem dX6_clashes_25 : decode cX6_clashes 25 = .ok (.iconst 0, 1) := by decide +kernel
theorem dX6_clashes_26 : decode cX6_clashes 26 = .ok (.istore_n 3, 1) := by decide +kernel
theorem dX6_clashes_27 : decode cX6_clashes 27 = .ok (.iload_n 3, 1) := by decide +kernel
theorem dX6_clashes_28 : decode cX6_clashes 28 = .ok (.iload_n 1, 1) := by decide +kernel
theorem dX6_clashes_29 : decode cX6_clashes 29 = .ok (.if_icmp .ge 31, 3) := by decide +kernel
theorem dX6_clashes_32 : decode cX6_clashes 32 = .ok (.aload_n 0, 1) := by decide +kernel
theorem dX6_clashes_33 : decode cX6_clashes 33 = .ok (.getfield 12, 3) := by decide +kernel
theorem dX6_clashes_36 : decode cX6_clashes 36 = .ok (.aload_n 0, 1) := by decide +kernel
theorem dX6_clashes_37 : decode cX6_clashes 37 = .ok (.getfield 12, 3) := by decide +kernel
theorem dX6_clashes_40 : decode cX6_clashes 40 = .ok (.getfield 102, 3) := by decide +kernel
theorem dX6_clashes_43 : decode cX6_clashes 43 = .ok (.iload_n 3, 1) := by decide +kernel
theorem dX6_clashes_44 : decode cX6_clashes 44 = .ok (.iadd, 1) := by decide +kernel
theorem dX6_clashes_45 : decode cX6_clashes 45 = .ok (.invokevirtual 262, 3) := by decide +kernel
theorem dX6_clashes_48 : decode cX6_clashes 48 = .ok (.ifCond .eq 6, 3) := by decide +kernel
theorem dX6_clashes_51 : decode cX6_clashes 51 = .ok (.iinc 2 1, 3) := by decide +kernel
theorem dX6_clashes_54 : decode cX6_clashes 54 = .ok (.iinc 3 1, 3) := by decide +kernel
theorem dX6_clashes_57 : decode cX6_clashes 57 = .ok (.goto (-30), 3) := by decide +kernel
theorem dX6_clashes_60 : decode cX6_clashes 60 = .ok (.iload_n 2, 1) := by decide +kernel
theorem dX6_clashes_61 : decode cX6_clashes 61 = .ok (.ireturn, 1) := by decide +kernel
theorem dX6_bestOffset_0 : decode cX6_bestOffset 0 = .ok (.aload_n 0, 1) := by decide +kernel
theorem dX6_bestOffset_1 : decode cX6_bestOffset 1 = .ok (.getfield 12, 3) := by decide +kernel
theorem dX6_bestOffset_4 : decode cX6_bestOffset 4 = .ok (.invokevirtual 259, 3) := by decide +kernel
theorem dX6_bestOffset_7 : decode cX6_bestOffset 7 = .ok (.ifCond .eq 14, 3) := by decide +kernel
theorem dX6_bestOffset_10 : decode cX6_bestOffset 10 = .ok (.iload_n 1, 1) := by decide +kernel
theorem dX6_bestOffset_11 : decode cX6_bestOffset 11 = .ok (.iconst 1, 1) := by decide +kernel
theorem dX6_bestOffset_12 : decode cX6_bestOffset 12 = .ok (.sipush 512, 3) := by decide +kernel
theorem dX6_bestOffset_15 : decode cX6_bestOffset 15 = .ok (.invokestatic 54, 3) := by decide +kernel
theorem dX6_bestOffset_18 : decode cX6_bestOffset 18 = .ok (.ifCond .ne 5, 3) := by decide +kernel
theorem dX6_bestOffset_21 : decode cX6_bestOffset 21 = .ok (.iconst (-1), 1) := by decide +kernel
theorem dX6_bestOffset_22 : decode cX6_bestOffset 22 = .ok (.ireturn, 1) := by decide +kernel
theorem dX6_bestOffset_23 : decode cX6_bestOffset 23 = .ok (.aload_n 0, 1) := by decide +kernel
theorem dX6_bestOffset_24 : decode cX6_bestOffset 24 = .ok (.iload_n 1, 1) := by decide +kernel
theorem dX6_bestOffset_25 : decode cX6_bestOffset 25 = .ok (.invokevirtual 332, 3) := by decide +kernel
theorem dX6_bestOffset_28 : decode cX6_bestOffset 28 = .ok (.iconst 0, 1) := by decide +kernel
theorem dX6_bestOffset_29 : decode cX6_bestOffset 29 = .ok (.istore_n 2, 1) := by decide +kernel
theorem dX6_bestOffset_30 : decode cX6_bestOffset 30 = .ok (.aload_n 0, 1) := by decide +kernel
theorem dX6_bestOffset_31 : decode cX6_bestOffset 31 = .ok (.iconst 0, 1) := by decide +kernel
theorem dX6_bestOffset_32 : decode cX6_bestOffset 32 = .ok (.iload_n 1, 1) := by decide +kernel
theorem dX6_bestOffset_33 : decode cX6_bestOffset 33 = .ok (.invokevirtual 335, 3) := by decide +kernel
theorem dX6_bestOffset_36 : decode cX6_bestOffset 36 = .ok (.istore_n 3, 1) := by decide +kernel
theorem dX6_bestOffset_37 : decode cX6_bestOffset 37 = .ok (.iconst 1, 1) := by decide +kernel
theorem dX6_bestOffset_38 : decode cX6_bestOffset 38 = .ok (.istore 4, 2) := by decide +kernel
theorem dX6_bestOffset_40 : decode cX6_bestOffset 40 = .ok (.iload 4, 2) := by decide +kernel
theorem dX6_bestOffset_42 : decode cX6_bestOffset 42 = .ok (.bipush 64, 2) := by decide +kernel
theorem dX6_bestOffset_44 : decode cX6_bestOffset 44 = .ok (.if_icmp .ge 30, 3) := by decide +kernel
theorem dX6_bestOffset_47 : decode cX6_bestOffset 47 = .ok (.aload_n 0, 1) := by decide +kernel
theorem dX6_bestOffset_48 : decode cX6_bestOffset 48 = .ok (.iload 4, 2) := by decide +kernel
theorem dX6_bestOffset_50 : decode cX6_bestOffset 50 = .ok (.iload_n 1, 1) := by decide +kernel
theorem dX6_bestOffset_51 : decode cX6_bestOffset 51 = .ok (.invokevirtual 335, 3) := by decide +kernel
theorem dX6_bestOffset_54 : decode cX6_bestOffset 54 = .ok (.istore 5, 2) := by decide +kernel
theorem dX6_bestOffset_56 : decode cX6_bestOffset 56 = .ok (.iload 5, 2) := by decide +kernel
theorem dX6_bestOffset_58 : decode cX6_bestOffset 58 = .ok (.iload_n 3, 1) := by decide +kernel
theorem dX6_bestOffset_59 : decode cX6_bestOffset 59 = .ok (.if_icmp .ge 9, 3) := by decide +kernel
theorem dX6_bestOffset_62 : decode cX6_bestOffset 62 = .ok (.iload 5, 2) := by decide +kernel
theorem dX6_bestOffset_64 : decode cX6_bestOffset 64 = .ok (.istore_n 3, 1) := by decide +kernel
theorem dX6_bestOffset_65 : decode cX6_bestOffset 65 = .ok (.iload 4, 2) := by decide +kernel
theorem dX6_bestOffset_67 : decode cX6_bestOffset 67 = .ok (.istore_n 2, 1) := by decide +kernel
theorem dX6_bestOffset_68 : decode cX6_bestOffset 68 = .ok (.iinc 4 1, 3) := by decide +kernel
theorem dX6_bestOffset_71 : decode cX6_bestOffset 71 = .ok (.goto (-31), 3) := by decide +kernel
theorem dX6_bestOffset_74 : decode cX6_bestOffset 74 = .ok (.iload_n 2, 1) := by decide +kernel
theorem dX6_bestOffset_75 : decode cX6_bestOffset 75 = .ok (.ireturn, 1) := by decide +kernel
theorem dX6_drain_0 : decode cX6_drain 0 = .ok (.aload_n 0, 1) := by decide +kernel
theorem dX6_drain_1 : decode cX6_drain 1 = .ok (.getfield 12, 3) := by decide +kernel
theorem dX6_drain_4 : decode cX6_drain 4 = .ok (.iload_n 1, 1) := by decide +kernel
theorem dX6_drain_5 : decode cX6_drain 5 = .ok (.iload_n 2, 1) := by decide +kernel
theorem dX6_drain_6 : decode cX6_drain 6 = .ok (.invokevirtual 132, 3) := by decide +kernel
theorem dX6_drain_9 : decode cX6_drain 9 = .ok (.ifnonnull 5, 3) := by decide +kernel
theorem dX6_drain_12 : decode cX6_drain 12 = .ok (.iconst (-1), 1) := by decide +kernel
theorem dX6_drain_13 : decode cX6_drain 13 = .ok (.ireturn, 1) := by decide +kernel
theorem dX6_drain_14 : decode cX6_drain 14 = .ok (.aload_n 0, 1) := by decide +kernel
theorem dX6_drain_15 : decode cX6_drain 15 = .ok (.getfield 16, 3) := by decide +kernel
theorem dX6_drain_18 : decode cX6_drain 18 = .ok (.aload_n 0, 1) := by decide +kernel
theorem dX6_drain_19 : decode cX6_drain 19 = .ok (.getfield 12, 3) := by decide +kernel
theorem dX6_drain_22 : decode cX6_drain 22 = .ok (.invokevirtual 219, 3) := by decide +kernel
theorem dX6_drain_25 : decode cX6_drain 25 = .ok (.aload_n 0, 1) := by decide +kernel
theorem dX6_drain_26 : decode cX6_drain 26 = .ok (.getfield 16, 3) := by decide +kernel
theorem dX6_drain_29 : decode cX6_drain 29 = .ok (.iload_n 1, 1) := by decide +kernel
theorem dX6_drain_30 : decode cX6_drain 30 = .ok (.iload_n 2, 1) := by decide +kernel
theorem dX6_drain_31 : decode cX6_drain 31 = .ok (.invokevirtual 132, 3) := by decide +kernel
theorem dX6_drain_34 : decode cX6_drain 34 = .ok (.astore_n 3, 1) := by decide +kernel
theorem dX6_drain_35 : decode cX6_drain 35 = .ok (.iconst 0, 1) := by decide +kernel
theorem dX6_drain_36 : decode cX6_drain 36 = .ok (.istore 4, 2) := by decide +kernel
theorem dX6_drain_38 : decode cX6_drain 38 = .ok (.iload 4, 2) := by decide +kernel
theorem dX6_drain_40 : decode cX6_drain 40 = .ok (.sipush 400, 3) := by decide +kernel
theorem dX6_drain_43 : decode cX6_drain 43 = .ok (.if_icmp .gt 68, 3) := by decide +kernel
theorem dX6_drain_46 : decode cX6_drain 46 = .ok (.aload_n 3, 1) := by decide +kernel
theorem dX6_drain_47 : decode cX6_drain 47 = .ok (.ifnull 64, 3) := by decide +kernel
theorem dX6_drain_50 : decode cX6_drain 50 = .ok (.aload_n 3, 1) := by decide +kernel
theorem dX6_drain_51 : decode cX6_drain 51 = .ok (.getfield 135, 3) := by decide +kernel
theorem dX6_drain_54 : decode cX6_drain 54 = .ok (.getfield 153, 3) := by decide +kernel
theorem dX6_drain_57 : decode cX6_drain 57 = .ok (.ifCond .ne 16, 3) := by decide +kernel
theorem dX6_drain_60 : decode cX6_drain 60 = .ok (.aload_n 3, 1) := by decide +kernel
theorem dX6_drain_61 : decode cX6_drain 61 = .ok (.getfield 141, 3) := by decide +kernel
theorem dX6_drain_64 : decode cX6_drain 64 = .ok (.getfield 153, 3) := by decide +kernel
theorem dX6_drain_67 : decode cX6_drain 67 = .ok (.ifCond .ne 6, 3) := by decide +kernel
theorem dX6_drain_70 : decode cX6_drain 70 = .ok (.iload 4, 2) := by decide +kernel
theorem dX6_drain_72 : decode cX6_drain 72 = .ok (.ireturn, 1) := by decide +kernel
theorem dX6_drain_73 : decode cX6_drain 73 = .ok (.iload 4, 2) := by decide +kernel
theorem dX6_drain_75 : decode cX6_drain 75 = .ok (.sipush 400, 3) := by decide +kernel
theorem dX6_drain_78 : decode cX6_drain 78 = .ok (.if_icmp .eq 18, 3) := by decide +kernel
theorem dX6_drain_81 : decode cX6_drain 81 = .ok (.aload_n 0, 1) := by decide +kernel
theorem dX6_drain_82 : decode cX6_drain 82 = .ok (.getfield 16, 3) := by decide +kernel
theorem dX6_drain_85 : decode cX6_drain 85 = .ok (.getfield 102, 3) := by decide +kernel
theorem dX6_drain_88 : decode cX6_drain 88 = .ok (.iconst 2, 1) := by decide +kernel
theorem dX6_drain_89 : decode cX6_drain 89 = .ok (.iadd, 1) := by decide +kernel
theorem dX6_drain_90 : decode cX6_drain 90 = .ok (.ldc_w 338, 3) := by decide +kernel
theorem dX6_drain_93 : decode cX6_drain 93 = .ok (.if_icmp .le 5, 3) := by decide +kernel
theorem dX6_drain_96 : decode cX6_drain 96 = .ok (.iconst (-1), 1) := by decide +kernel
theorem dX6_drain_97 : decode cX6_drain 97 = .ok (.ireturn, 1) := by decide +kernel
theorem dX6_drain_98 : decode cX6_drain 98 = .ok (.aload_n 0, 1) := by decide +kernel
theorem dX6_drain_99 : decode cX6_drain 99 = .ok (.getfield 16, 3) := by decide +kernel
theorem dX6_drain_102 : decode cX6_drain 102 = .ok (.invokevirtual 339, 3) := by decide +kernel
theorem dX6_drain_105 : decode cX6_drain 105 = .ok (.iinc 4 1, 3) := by decide +kernel
theorem dX6_drain_108 : decode cX6_drain 108 = .ok (.goto (-70), 3) := by decide +kernel
theorem dX6_drain_111 : decode cX6_drain 111 = .ok (.iconst (-1), 1) := by decide +kernel
theorem dX6_drain_112 : decode cX6_drain 112 = .ok (.ireturn, 1) := by decide +kernel
theorem dX6_would_0 : decode cX6_would 0 = .ok (.iconst 1, 1) := by decide +kernel
theorem dX6_would_1 : decode cX6_would 1 = .ok (.iload_n 1, 1) := by decide +kernel
theorem dX6_would_2 : decode cX6_would 2 = .ok (.invokestatic 119, 3) := by decide +kernel
theorem dX6_would_5 : decode cX6_would 5 = .ok (.ifCond .eq 27, 3) := by decide +kernel
theorem dX6_would_8 : decode cX6_would 8 = .ok (.iload_n 2, 1) := by decide +kernel
theorem dX6_would_9 : decode cX6_would 9 = .ok (.iconst 1, 1) := by decide +kernel
theorem dX6_would_10 : decode cX6_would 10 = .ok (.sipush 200, 3) := by decide +kernel
theorem dX6_would_13 : decode cX6_would 13 = .ok (.invokestatic 54, 3) := by decide +kernel
theorem dX6_would_16 : decode cX6_would 16 = .ok (.ifCond .eq 16, 3) := by decide +kernel
theorem dX6_would_19 : decode cX6_would 19 = .ok (.iload_n 3, 1) := by decide +kernel
theorem dX6_would_20 : decode cX6_would 20 = .ok (.iconst 0, 1) := by decide +kernel
theorem dX6_would_21 : decode cX6_would 21 = .ok (.iconst 2, 1) := by decide +kernel
theorem dX6_would_22 : decode cX6_would 22 = .ok (.invokestatic 54, 3) := by decide +kernel
theorem dX6_would_25 : decode cX6_would 25 = .ok (.ifCond .eq 7, 3) := by decide +kernel
theorem dX6_would_28 : decode cX6_would 28 = .ok (.iconst 1, 1) := by decide +kernel
theorem dX6_would_29 : decode cX6_would 29 = .ok (.goto 4, 3) := by decide +kernel
theorem dX6_would_32 : decode cX6_would 32 = .ok (.iconst 0, 1) := by decide +kernel
theorem dX6_would_33 : decode cX6_would 33 = .ok (.istore 4, 2) := by decide +kernel
theorem dX6_would_35 : decode cX6_would 35 = .ok (.iload 4, 2) := by decide +kernel
theorem dX6_would_37 : decode cX6_would 37 = .ok (.ifCond .eq 11, 3) := by decide +kernel
theorem dX6_would_40 : decode cX6_would 40 = .ok (.aload_n 0, 1) := by decide +kernel
theorem dX6_would_41 : decode cX6_would 41 = .ok (.iload_n 2, 1) := by decide +kernel
theorem dX6_would_42 : decode cX6_would 42 = .ok (.invokevirtual 213, 3) := by decide +kernel
theorem dX6_would_45 : decode cX6_would 45 = .ok (.ifCond .ne 5, 3) := by decide +kernel
theorem dX6_would_48 : decode cX6_would 48 = .ok (.iconst (-1), 1) := by decide +kernel
theorem dX6_would_49 : decode cX6_would 49 = .ok (.ireturn, 1) := by decide +kernel
theorem dX6_would_50 : decode cX6_would 50 = .ok (.aload_n 0, 1) := by decide +kernel
theorem dX6_would_51 : decode cX6_would 51 = .ok (.iload_n 1, 1) := by decide +kernel
theorem dX6_would_52 : decode cX6_would 52 = .ok (.invokevirtual 342, 3) := by decide +kernel
theorem dX6_would_55 : decode cX6_would 55 = .ok (.iload_n 2, 1) := by decide +kernel
theorem dX6_would_56 : decode cX6_would 56 = .ok (.invokevirtual 216, 3) := by decide +kernel
theorem dX6_would_59 : decode cX6_would 59 = .ok (.istore 5, 2) := by decide +kernel
theorem dX6_would_61 : decode cX6_would 61 = .ok (.iload_n 3, 1) := by decide +kernel
theorem dX6_would_62 : decode cX6_would 62 = .ok (.lookupswitch 45 #[(0, 26), (1, 29)], 26) := by decide +kernel
theorem dX6_would_88 : decode cX6_would 88 = .ok (.iload 5, 2) := by decide +kernel
theorem dX6_would_90 : decode cX6_would 90 = .ok (.ireturn, 1) := by decide +kernel
theorem dX6_would_91 : decode cX6_would 91 = .ok (.aload_n 0, 1) := by decide +kernel
theorem dX6_would_92 : decode cX6_would 92 = .ok (.getfield 16, 3) := by decide +kernel
theorem dX6_would_95 : decode cX6_would 95 = .ok (.invokevirtual 346, 3) := by decide +kernel
theorem dX6_would_98 : decode cX6_would 98 = .ok (.aload_n 0, 1) := by decide +kernel
theorem dX6_would_99 : decode cX6_would 99 = .ok (.getfield 12, 3) := by decide +kernel
theorem dX6_would_102 : decode cX6_would 102 = .ok (.invokevirtual 346, 3) := by decide +kernel
theorem dX6_would_105 : decode cX6_would 105 = .ok (.isub, 1) := by decide +kernel
theorem dX6_would_106 : decode cX6_would 106 = .ok (.ireturn, 1) := by decide +kernel
theorem dX6_would_107 : decode cX6_would 107 = .ok (.aload_n 0, 1) := by decide +kernel
theorem dX6_would_108 : decode cX6_would 108 = .ok (.getfield 16, 3) := by decide +kernel
theorem dX6_would_111 : decode cX6_would 111 = .ok (.invokevirtual 349, 3) := by decide +kernel
theorem dX6_would_114 : decode cX6_would 114 = .ok (.ireturn, 1) := by decide +kernel
theorem dX6_ready_0 : decode cX6_ready 0 = .ok (.aload_n 0, 1) := by decide +kernel
theorem dX6_ready_1 : decode cX6_ready 1 = .ok (.getfield 12, 3) := by decide +kernel
theorem dX6_ready_4 : decode cX6_ready 4 = .ok (.iload_n 1, 1) := by decide +kernel
theorem dX6_ready_5 : decode cX6_ready 5 = .ok (.iload_n 2, 1) := by decide +kernel
theorem dX6_ready_6 : decode cX6_ready 6 = .ok (.invokevirtual 132, 3) := by decide +kernel
theorem dX6_ready_9 : decode cX6_ready 9 = .ok (.astore_n 3, 1) := by decide +kernel
theorem dX6_ready_10 : decode cX6_ready 10 = .ok (.aload_n 3, 1) := by decide +kernel
theorem dX6_ready_11 : decode cX6_ready 11 = .ok (.ifnonnull 5, 3) := by decide +kernel
theorem dX6_ready_14 : decode cX6_ready 14 = .ok (.iconst (-1), 1) := by decide +kernel
theorem dX6_ready_15 : decode cX6_ready 15 = .ok (.ireturn, 1) := by decide +kernel
theorem dX6_ready_16 : decode cX6_ready 16 = .ok (.iconst 0, 1) := by decide +kernel
theorem dX6_ready_17 : decode cX6_ready 17 = .ok (.istore 4, 2) := by decide +kernel
theorem dX6_ready_19 : decode cX6_ready 19 = .ok (.iload 4, 2) := by decide +kernel
theorem dX6_ready_21 : decode cX6_ready 21 = .ok (.sipush 200, 3) := by decide +kernel
theorem dX6_ready_24 : decode cX6_ready 24 = .ok (.if_icmp .ge 42, 3) := by decide +kernel
theorem dX6_ready_27 : decode cX6_ready 27 = .ok (.aload_n 0, 1) := by decide +kernel
theorem dX6_ready_28 : decode cX6_ready 28 = .ok (.getfield 12, 3) := by decide +kernel
theorem dX6_ready_31 : decode cX6_ready 31 = .ok (.iload_n 1, 1) := by decide +kernel
theorem dX6_ready_32 : decode cX6_ready 32 = .ok (.aload_n 3, 1) := by decide +kernel
theorem dX6_ready_33 : decode cX6_ready 33 = .ok (.aload_n 0, 1) := by decide +kernel
theorem dX6_ready_34 : decode cX6_ready 34 = .ok (.getfield 12, 3) := by decide +kernel
theorem dX6_ready_37 : decode cX6_ready 37 = .ok (.getfield 102, 3) := by decide +kernel
theorem dX6_ready_40 : decode cX6_ready 40 = .ok (.iload 4, 2) := by decide +kernel
theorem dX6_ready_42 : decode cX6_ready 42 = .ok (.iadd, 1) := by decide +kernel
theorem dX6_ready_43 : decode cX6_ready 43 = .ok (.invokevirtual 352, 3) := by decide +kernel
theorem dX6_ready_46 : decode cX6_ready 46 = .ok (.ifCond .eq 14, 3) := by decide +kernel
theorem dX6_ready_49 : decode cX6_ready 49 = .ok (.aload_n 0, 1) := by decide +kernel
theorem dX6_ready_50 : decode cX6_ready 50 = .ok (.getfield 12, 3) := by decide +kernel
theorem dX6_ready_53 : decode cX6_ready 53 = .ok (.getfield 102, 3) := by decide +kernel
theorem dX6_ready_56 : decode cX6_ready 56 = .ok (.iload 4, 2) := by decide +kernel
theorem dX6_ready_58 : decode cX6_ready 58 = .ok (.iadd, 1) := by decide +kernel
theorem dX6_ready_59 : decode cX6_ready 59 = .ok (.ireturn, 1) := by decide +kernel
theorem dX6_ready_60 : decode cX6_ready 60 = .ok (.iinc 4 2, 3) := by decide +kernel
theorem dX6_ready_63 : decode cX6_ready 63 = .ok (.goto (-44), 3) := by decide +kernel
theorem dX6_ready_66 : decode cX6_ready 66 = .ok (.iconst (-1), 1) := by decide +kernel
theorem dX6_ready_67 : decode cX6_ready 67 = .ok (.ireturn, 1) := by decide +kernel
theorem dX6_bothReady_0 : decode cX6_bothReady 0 = .ok (.aload_n 0, 1) := by decide +kernel
theorem dX6_bothReady_1 : decode cX6_bothReady 1 = .ok (.getfield 12, 3) := by decide +kernel
theorem dX6_bothReady_4 : decode cX6_bothReady 4 = .ok (.iload_n 1, 1) := by decide +kernel
theorem dX6_bothReady_5 : decode cX6_bothReady 5 = .ok (.iload_n 2, 1) := by decide +kernel
theorem dX6_bothReady_6 : decode cX6_bothReady 6 = .ok (.invokevirtual 132, 3) := by decide +kernel
theorem dX6_bothReady_9 : decode cX6_bothReady 9 = .ok (.astore 5, 2) := by decide +kernel
theorem dX6_bothReady_11 : decode cX6_bothReady 11 = .ok (.aload_n 0, 1) := by decide +kernel
theorem dX6_bothReady_12 : decode cX6_bothReady 12 = .ok (.getfield 12, 3) := by decide +kernel
theorem dX6_bothReady_15 : decode cX6_bothReady 15 = .ok (.iload_n 1, 1) := by decide +kernel
theorem dX6_bothReady_16 : decode cX6_bothReady 16 = .ok (.iload_n 3, 1) := by decide +kernel
theorem dX6_bothReady_17 : decode cX6_bothReady 17 = .ok (.invokevirtual 132, 3) := by decide +kernel
theorem dX6_bothReady_20 : decode cX6_bothReady 20 = .ok (.astore 6, 2) := by decide +kernel
theorem dX6_bothReady_22 : decode cX6_bothReady 22 = .ok (.aload 5, 2) := by decide +kernel
theorem dX6_bothReady_24 : decode cX6_bothReady 24 = .ok (.ifnull 20, 3) := by decide +kernel
theorem dX6_bothReady_27 : decode cX6_bothReady 27 = .ok (.aload 6, 2) := by decide +kernel
theorem dX6_bothReady_29 : decode cX6_bothReady 29 = .ok (.ifnull 15, 3) := by decide +kernel
theorem dX6_bothReady_32 : decode cX6_bothReady 32 = .ok (.iload 4, 2) := by decide +kernel
theorem dX6_bothReady_34 : decode cX6_bothReady 34 = .ok (.iconst 1, 1) := by decide +kernel
theorem dX6_bothReady_35 : decode cX6_bothReady 35 = .ok (.sipush 200, 3) := by decide +kernel
theorem dX6_bothReady_38 : decode cX6_bothReady 38 = .ok (.invokestatic 54, 3) := by decide +kernel
theorem dX6_bothReady_41 : decode cX6_bothReady 41 = .ok (.ifCond .ne 5, 3) := by decide +kernel
theorem dX6_bothReady_44 : decode cX6_bothReady 44 = .ok (.iconst (-1), 1) := by decide +kernel
theorem dX6_bothReady_45 : decode cX6_bothReady 45 = .ok (.ireturn, 1) := by decide +kernel
theorem dX6_bothReady_46 : decode cX6_bothReady 46 = .ok (.iconst 0, 1) := by decide +kernel
theorem dX6_bothReady_47 : decode cX6_bothReady 47 = .ok (.istore 7, 2) := by decide +kernel
theorem dX6_bothReady_49 : decode cX6_bothReady 49 = .ok (.iconst 0, 1) := by decide +kernel
theorem dX6_bothReady_50 : decode cX6_bothReady 50 = .ok (.istore 8, 2) := by decide +kernel
theorem dX6_bothReady_52 : decode cX6_bothReady 52 = .ok (.iload 8, 2) := by decide +kernel
theorem dX6_bothReady_54 : decode cX6_bothReady 54 = .ok (.iload 4, 2) := by decide +kernel
theorem dX6_bothReady_56 : decode cX6_bothReady 56 = .ok (.if_icmp .ge 56, 3) := by decide +kernel
theorem dX6_bothReady_59 : decode cX6_bothReady 59 = .ok (.aload_n 0, 1) := by decide +kernel
theorem dX6_bothReady_60 : decode cX6_bothReady 60 = .ok (.getfield 12, 3) := by decide +kernel
theorem dX6_bothReady_63 : decode cX6_bothReady 63 = .ok (.getfield 102, 3) := by decide +kernel
theorem dX6_bothReady_66 : decode cX6_bothReady 66 = .ok (.iconst 2, 1) := by decide +kernel
theorem dX6_bothReady_67 : decode cX6_bothReady 67 = .ok (.iload 8, 2) := by decide +kernel
theorem dX6_bothReady_69 : decode cX6_bothReady 69 = .ok (.imul, 1) := by decide +kernel
theorem dX6_bothReady_70 : decode cX6_bothReady 70 = .ok (.iadd, 1) := by decide +kernel
theorem dX6_bothReady_71 : decode cX6_bothReady 71 = .ok (.istore 9, 2) := by decide +kernel
theorem dX6_bothReady_73 : decode cX6_bothReady 73 = .ok (.aload_n 0, 1) := by decide +kernel
theorem dX6_bothReady_74 : decode cX6_bothReady 74 = .ok (.getfield 12, 3) := by decide +kernel
theorem dX6_bothReady_77 : decode cX6_bothReady 77 = .ok (.iload_n 1, 1) := by decide +kernel
theorem dX6_bothReady_78 : decode cX6_bothReady 78 = .ok (.aload 5, 2) := by decide +kernel
theorem dX6_bothReady_80 : decode cX6_bothReady 80 = .ok (.iload 9, 2) := by decide +kernel
theorem dX6_bothReady_82 : decode cX6_bothReady 82 = .ok (.invokevirtual 352, 3) := by decide +kernel
theorem dX6_bothReady_85 : decode cX6_bothReady 85 = .ok (.ifCond .eq 21, 3) := by decide +kernel
theorem dX6_bothReady_88 : decode cX6_bothReady 88 = .ok (.aload_n 0, 1) := by decide +kernel
theorem dX6_bothReady_89 : decode cX6_bothReady 89 = .ok (.getfield 12, 3) := by decide +kernel
theorem dX6_bothReady_92 : decode cX6_bothReady 92 = .ok (.iload_n 1, 1) := by decide +kernel
theorem dX6_bothReady_93 : decode cX6_bothReady 93 = .ok (.aload 6, 2) := by decide +kernel
theorem dX6_bothReady_95 : decode cX6_bothReady 95 = .ok (.iload 9, 2) := by decide +kernel
theorem dX6_bothReady_97 : decode cX6_bothReady 97 = .ok (.invokevirtual 352, 3) := by decide +kernel
theorem dX6_bothReady_100 : decode cX6_bothReady 100 = .ok (.ifCond .eq 6, 3) := by decide +kernel
theorem dX6_bothReady_103 : decode cX6_bothReady 103 = .ok (.iinc 7 1, 3) := by decide +kernel
theorem dX6_bothReady_106 : decode cX6_bothReady 106 = .ok (.iinc 8 1, 3) := by decide +kernel
theorem dX6_bothReady_109 : decode cX6_bothReady 109 = .ok (.goto (-57), 3) := by decide +kernel
theorem dX6_bothReady_112 : decode cX6_bothReady 112 = .ok (.iload 7, 2) := by decide +kernel
theorem dX6_bothReady_114 : decode cX6_bothReady 114 = .ok (.ireturn, 1) := by decide +kernel
theorem dX6_ahead_0 : decode cX6_ahead 0 = .ok (.aload_n 0, 1) := by decide +kernel
theorem dX6_ahead_1 : decode cX6_ahead 1 = .ok (.getfield 12, 3) := by decide +kernel
theorem dX6_ahead_4 : decode cX6_ahead 4 = .ok (.iload_n 1, 1) := by decide +kernel
theorem dX6_ahead_5 : decode cX6_ahead 5 = .ok (.invokevirtual 95, 3) := by decide +kernel
theorem dX6_ahead_8 : decode cX6_ahead 8 = .ok (.ifnull 22, 3) := by decide +kernel
theorem dX6_ahead_11 : decode cX6_ahead 11 = .ok (.iload_n 2, 1) := by decide +kernel
theorem dX6_ahead_12 : decode cX6_ahead 12 = .ok (.iconst 1, 1) := by decide +kernel
theorem dX6_ahead_13 : decode cX6_ahead 13 = .ok (.sipush 200, 3) := by decide +kernel
theorem dX6_ahead_16 : decode cX6_ahead 16 = .ok (.invokestatic 54, 3) := by decide +kernel
theorem dX6_ahead_19 : decode cX6_ahead 19 = .ok (.ifCond .eq 11, 3) := by decide +kernel
theorem dX6_ahead_22 : decode cX6_ahead 22 = .ok (.aload_n 0, 1) := by decide +kernel
theorem dX6_ahead_23 : decode cX6_ahead 23 = .ok (.iload_n 2, 1) := by decide +kernel
theorem dX6_ahead_24 : decode cX6_ahead 24 = .ok (.invokevirtual 213, 3) := by decide +kernel
theorem dX6_ahead_27 : decode cX6_ahead 27 = .ok (.ifCond .ne 5, 3) := by decide +kernel
theorem dX6_ahead_30 : decode cX6_ahead 30 = .ok (.iconst (-1), 1) := by decide +kernel
theorem dX6_ahead_31 : decode cX6_ahead 31 = .ok (.ireturn, 1) := by decide +kernel
theorem dX6_ahead_32 : decode cX6_ahead 32 = .ok (.aload_n 0, 1) := by decide +kernel
theorem dX6_ahead_33 : decode cX6_ahead 33 = .ok (.aload_n 0, 1) := by decide +kernel
theorem dX6_ahead_34 : decode cX6_ahead 34 = .ok (.getfield 12, 3) := by decide +kernel
theorem dX6_ahead_37 : decode cX6_ahead 37 = .ok (.getfield 126, 3) := by decide +kernel
theorem dX6_ahead_40 : decode cX6_ahead 40 = .ok (.invokevirtual 342, 3) := by decide +kernel
theorem dX6_ahead_43 : decode cX6_ahead 43 = .ok (.iload_n 2, 1) := by decide +kernel
theorem dX6_ahead_44 : decode cX6_ahead 44 = .ok (.invokevirtual 216, 3) := by decide +kernel
theorem dX6_ahead_47 : decode cX6_ahead 47 = .ok (.pop, 1) := by decide +kernel
theorem dX6_ahead_48 : decode cX6_ahead 48 = .ok (.aload_n 0, 1) := by decide +kernel
theorem dX6_ahead_49 : decode cX6_ahead 49 = .ok (.getfield 16, 3) := by decide +kernel
theorem dX6_ahead_52 : decode cX6_ahead 52 = .ok (.getfield 80, 3) := by decide +kernel
theorem dX6_ahead_55 : decode cX6_ahead 55 = .ok (.iload_n 1, 1) := by decide +kernel
theorem dX6_ahead_56 : decode cX6_ahead 56 = .ok (.aaload, 1) := by decide +kernel
theorem dX6_ahead_57 : decode cX6_ahead 57 = .ok (.astore_n 3, 1) := by decide +kernel
theorem dX6_ahead_58 : decode cX6_ahead 58 = .ok (.aload_n 3, 1) := by decide +kernel
theorem dX6_ahead_59 : decode cX6_ahead 59 = .ok (.getfield 356, 3) := by decide +kernel
theorem dX6_ahead_62 : decode cX6_ahead 62 = .ok (.ifCond .eq 8, 3) := by decide +kernel
theorem dX6_ahead_65 : decode cX6_ahead 65 = .ok (.bipush (-2), 2) := by decide +kernel
theorem dX6_ahead_67 : decode cX6_ahead 67 = .ok (.goto 7, 3) := by decide +kernel
theorem dX6_ahead_70 : decode cX6_ahead 70 = .ok (.aload_n 3, 1) := by decide +kernel
theorem dX6_ahead_71 : decode cX6_ahead 71 = .ok (.getfield 359, 3) := by decide +kernel
theorem dX6_ahead_74 : decode cX6_ahead 74 = .ok (.ireturn, 1) := by decide +kernel
theorem dX6_together_0 : decode cX6_together 0 = .ok (.aload_n 0, 1) := by decide +kernel
theorem dX6_together_1 : decode cX6_together 1 = .ok (.getfield 12, 3) := by decide +kernel
theorem dX6_together_4 : decode cX6_together 4 = .ok (.iload_n 1, 1) := by decide +kernel
theorem dX6_together_5 : decode cX6_together 5 = .ok (.iload_n 2, 1) := by decide +kernel
theorem dX6_together_6 : decode cX6_together 6 = .ok (.invokevirtual 132, 3) := by decide +kernel
theorem dX6_together_9 : decode cX6_together 9 = .ok (.astore 4, 2) := by decide +kernel
theorem dX6_together_11 : decode cX6_together 11 = .ok (.aload_n 0, 1) := by decide +kernel
theorem dX6_together_12 : decode cX6_together 12 = .ok (.getfield 12, 3) := by decide +kernel
theorem dX6_together_15 : decode cX6_together 15 = .ok (.iload_n 1, 1) := by decide +kernel
theorem dX6_together_16 : decode cX6_together 16 = .ok (.iload_n 3, 1) := by decide +kernel
theorem dX6_together_17 : decode cX6_together 17 = .ok (.invokevirtual 132, 3) := by decide +kernel
theorem dX6_together_20 : decode cX6_together 20 = .ok (.astore 5, 2) := by decide +kernel
theorem dX6_together_22 : decode cX6_together 22 = .ok (.aload 4, 2) := by decide +kernel
theorem dX6_together_24 : decode cX6_together 24 = .ok (.ifnull 13, 3) := by decide +kernel
theorem dX6_together_27 : decode cX6_together 27 = .ok (.aload 5, 2) := by decide +kernel
theorem dX6_together_29 : decode cX6_together 29 = .ok (.ifnull 8, 3) := by decide +kernel
theorem dX6_together_32 : decode cX6_together 32 = .ok (.iload_n 2, 1) := by decide +kernel
theorem dX6_together_33 : decode cX6_together 33 = .ok (.iload_n 3, 1) := by decide +kernel
theorem dX6_together_34 : decode cX6_together 34 = .ok (.if_icmp .ne 5, 3) := by decide +kernel
theorem dX6_together_37 : decode cX6_together 37 = .ok (.iconst (-1), 1) := by decide +kernel
theorem dX6_together_38 : decode cX6_together 38 = .ok (.ireturn, 1) := by decide +kernel
theorem dX6_together_39 : decode cX6_together 39 = .ok (.iconst 0, 1) := by decide +kernel
theorem dX6_together_40 : decode cX6_together 40 = .ok (.istore 6, 2) := by decide +kernel
theorem dX6_together_42 : decode cX6_together 42 = .ok (.iload 6, 2) := by decide +kernel
theorem dX6_together_44 : decode cX6_together 44 = .ok (.sipush 2000, 3) := by decide +kernel
theorem dX6_together_47 : decode cX6_together 47 = .ok (.if_icmp .ge 50, 3) := by decide +kernel
theorem dX6_together_50 : decode cX6_together 50 = .ok (.aload_n 0, 1) := by decide +kernel
theorem dX6_together_51 : decode cX6_together 51 = .ok (.getfield 12, 3) := by decide +kernel
theorem dX6_together_54 : decode cX6_together 54 = .ok (.getfield 102, 3) := by decide +kernel
theorem dX6_together_57 : decode cX6_together 57 = .ok (.iload 6, 2) := by decide +kernel
theorem dX6_together_59 : decode cX6_together 59 = .ok (.iadd, 1) := by decide +kernel
theorem dX6_together_60 : decode cX6_together 60 = .ok (.istore 7, 2) := by decide +kernel
theorem dX6_together_62 : decode cX6_together 62 = .ok (.aload 4, 2) := by decide +kernel
theorem dX6_together_64 : decode cX6_together 64 = .ok (.getfield 159, 3) := by decide +kernel
theorem dX6_together_67 : decode cX6_together 67 = .ok (.iload 7, 2) := by decide +kernel
theorem dX6_together_69 : decode cX6_together 69 = .ok (.invokevirtual 362, 3) := by decide +kernel
theorem dX6_together_72 : decode cX6_together 72 = .ok (.ifCond .eq 19, 3) := by decide +kernel
theorem dX6_together_75 : decode cX6_together 75 = .ok (.aload 5, 2) := by decide +kernel
theorem dX6_together_77 : decode cX6_together 77 = .ok (.getfield 159, 3) := by decide +kernel
theorem dX6_together_80 : decode cX6_together 80 = .ok (.iload 7, 2) := by decide +kernel
theorem dX6_together_82 : decode cX6_together 82 = .ok (.invokevirtual 362, 3) := by decide +kernel
theorem dX6_together_85 : decode cX6_together 85 = .ok (.ifCond .eq 6, 3) := by decide +kernel
theorem dX6_together_88 : decode cX6_together 88 = .ok (.iload 7, 2) := by decide +kernel
theorem dX6_together_90 : decode cX6_together 90 = .ok (.ireturn, 1) := by decide +kernel
theorem dX6_together_91 : decode cX6_together 91 = .ok (.iinc 6 2, 3) := by decide +kernel
theorem dX6_together_94 : decode cX6_together 94 = .ok (.goto (-52), 3) := by decide +kernel
theorem dX6_together_97 : decode cX6_together 97 = .ok (.iconst (-1), 1) := by decide +kernel
theorem dX6_together_98 : decode cX6_together 98 = .ok (.ireturn, 1) := by decide +kernel
theorem dX6_ranked_0 : decode cX6_ranked 0 = .ok (.aload_n 0, 1) := by decide +kernel
theorem dX6_ranked_1 : decode cX6_ranked 1 = .ok (.getfield 12, 3) := by decide +kernel
theorem dX6_ranked_4 : decode cX6_ranked 4 = .ok (.iload_n 1, 1) := by decide +kernel
theorem dX6_ranked_5 : decode cX6_ranked 5 = .ok (.invokevirtual 95, 3) := by decide +kernel
theorem dX6_ranked_8 : decode cX6_ranked 8 = .ok (.astore_n 3, 1) := by decide +kernel
theorem dX6_ranked_9 : decode cX6_ranked 9 = .ok (.aload_n 3, 1) := by decide +kernel
theorem dX6_ranked_10 : decode cX6_ranked 10 = .ok (.ifnull 13, 3) := by decide +kernel
theorem dX6_ranked_13 : decode cX6_ranked 13 = .ok (.iload_n 2, 1) := by decide +kernel
theorem dX6_ranked_14 : decode cX6_ranked 14 = .ok (.iconst 0, 1) := by decide +kernel
theorem dX6_ranked_15 : decode cX6_ranked 15 = .ok (.bipush 22, 2) := by decide +kernel
theorem dX6_ranked_17 : decode cX6_ranked 17 = .ok (.invokestatic 54, 3) := by decide +kernel
theorem dX6_ranked_20 : decode cX6_ranked 20 = .ok (.ifCond .ne 5, 3) := by decide +kernel
theorem dX6_ranked_23 : decode cX6_ranked 23 = .ok (.iconst (-1), 1) := by decide +kernel
theorem dX6_ranked_24 : decode cX6_ranked 24 = .ok (.ireturn, 1) := by decide +kernel
theorem dX6_ranked_25 : decode cX6_ranked 25 = .ok (.iconst 0, 1) := by decide +kernel
theorem dX6_ranked_26 : decode cX6_ranked 26 = .ok (.istore 4, 2) := by decide +kernel
theorem dX6_ranked_28 : decode cX6_ranked 28 = .ok (.iload 4, 2) := by decide +kernel
theorem dX6_ranked_30 : decode cX6_ranked 30 = .ok (.bipush 23, 2) := by decide +kernel
theorem dX6_ranked_32 : decode cX6_ranked 32 = .ok (.if_icmp .ge 32, 3) := by decide +kernel
theorem dX6_ranked_35 : decode cX6_ranked 35 = .ok (.aload_n 3, 1) := by decide +kernel
theorem dX6_ranked_36 : decode cX6_ranked 36 = .ok (.getfield 265, 3) := by decide +kernel
theorem dX6_ranked_39 : decode cX6_ranked 39 = .ok (.iload 4, 2) := by decide +kernel
theorem dX6_ranked_41 : decode cX6_ranked 41 = .ok (.iaload, 1) := by decide +kernel
theorem dX6_ranked_42 : decode cX6_ranked 42 = .ok (.ifCond .le 16, 3) := by decide +kernel
theorem dX6_ranked_45 : decode cX6_ranked 45 = .ok (.aload_n 3, 1) := by decide +kernel
theorem dX6_ranked_46 : decode cX6_ranked 46 = .ok (.iload 4, 2) := by decide +kernel
theorem dX6_ranked_48 : decode cX6_ranked 48 = .ok (.invokevirtual 365, 3) := by decide +kernel
theorem dX6_ranked_51 : decode cX6_ranked 51 = .ok (.iload_n 2, 1) := by decide +kernel
theorem dX6_ranked_52 : decode cX6_ranked 52 = .ok (.if_icmp .ne 6, 3) := by decide +kernel
theorem dX6_ranked_55 : decode cX6_ranked 55 = .ok (.iload 4, 2) := by decide +kernel
theorem dX6_ranked_57 : decode cX6_ranked 57 = .ok (.ireturn, 1) := by decide +kernel
theorem dX6_ranked_58 : decode cX6_ranked 58 = .ok (.iinc 4 1, 3) := by decide +kernel
theorem dX6_ranked_61 : decode cX6_ranked 61 = .ok (.goto (-33), 3) := by decide +kernel
theorem dX6_ranked_64 : decode cX6_ranked 64 = .ok (.iconst (-1), 1) := by decide +kernel
theorem dX6_ranked_65 : decode cX6_ranked 65 = .ok (.ireturn, 1) := by decide +kernel
theorem dX6_quiet_0 : decode cX6_quiet 0 = .ok (.aload_n 0, 1) := by decide +kernel
theorem dX6_quiet_1 : decode cX6_quiet 1 = .ok (.getfield 12, 3) := by decide +kernel
theorem dX6_quiet_4 : decode cX6_quiet 4 = .ok (.iload_n 1, 1) := by decide +kernel
theorem dX6_quiet_5 : decode cX6_quiet 5 = .ok (.invokevirtual 95, 3) := by decide +kernel
theorem dX6_quiet_8 : decode cX6_quiet 8 = .ok (.astore_n 3, 1) := by decide +kernel
theorem dX6_quiet_9 : decode cX6_quiet 9 = .ok (.aload_n 3, 1) := by decide +kernel
theorem dX6_quiet_10 : decode cX6_quiet 10 = .ok (.ifnull 14, 3) := by decide +kernel
theorem dX6_quiet_13 : decode cX6_quiet 13 = .ok (.iload_n 2, 1) := by decide +kernel
theorem dX6_quiet_14 : decode cX6_quiet 14 = .ok (.iconst 0, 1) := by decide +kernel
theorem dX6_quiet_15 : decode cX6_quiet 15 = .ok (.sipush 9999, 3) := by decide +kernel
theorem dX6_quiet_18 : decode cX6_quiet 18 = .ok (.invokestatic 54, 3) := by decide +kernel
theorem dX6_quiet_21 : decode cX6_quiet 21 = .ok (.ifCond .ne 5, 3) := by decide +kernel
theorem dX6_quiet_24 : decode cX6_quiet 24 = .ok (.iconst (-1), 1) := by decide +kernel
theorem dX6_quiet_25 : decode cX6_quiet 25 = .ok (.ireturn, 1) := by decide +kernel
theorem dX6_quiet_26 : decode cX6_quiet 26 = .ok (.iconst 0, 1) := by decide +kernel
theorem dX6_quiet_27 : decode cX6_quiet 27 = .ok (.istore 4, 2) := by decide +kernel
theorem dX6_quiet_29 : decode cX6_quiet 29 = .ok (.iconst 0, 1) := by decide +kernel
theorem dX6_quiet_30 : decode cX6_quiet 30 = .ok (.istore 5, 2) := by decide +kernel
theorem dX6_quiet_32 : decode cX6_quiet 32 = .ok (.iload 5, 2) := by decide +kernel
theorem dX6_quiet_34 : decode cX6_quiet 34 = .ok (.aload_n 3, 1) := by decide +kernel
theorem dX6_quiet_35 : decode cX6_quiet 35 = .ok (.getfield 92, 3) := by decide +kernel
theorem dX6_quiet_38 : decode cX6_quiet 38 = .ok (.if_icmp .ge 48, 3) := by decide +kernel
theorem dX6_quiet_41 : decode cX6_quiet 41 = .ok (.iload 5, 2) := by decide +kernel
theorem dX6_quiet_43 : decode cX6_quiet 43 = .ok (.iconst 4, 1) := by decide +kernel
theorem dX6_quiet_44 : decode cX6_quiet 44 = .ok (.if_icmp .ge 42, 3) := by decide +kernel
theorem dX6_quiet_47 : decode cX6_quiet 47 = .ok (.aload_n 0, 1) := by decide +kernel
theorem dX6_quiet_48 : decode cX6_quiet 48 = .ok (.getfield 12, 3) := by decide +kernel
theorem dX6_quiet_51 : decode cX6_quiet 51 = .ok (.getfield 102, 3) := by decide +kernel
theorem dX6_quiet_54 : decode cX6_quiet 54 = .ok (.aload_n 3, 1) := by decide +kernel
theorem dX6_quiet_55 : decode cX6_quiet 55 = .ok (.getfield 368, 3) := by decide +kernel
theorem dX6_quiet_58 : decode cX6_quiet 58 = .ok (.iload 5, 2) := by decide +kernel
theorem dX6_quiet_60 : decode cX6_quiet 60 = .ok (.aaload, 1) := by decide +kernel
theorem dX6_quiet_61 : decode cX6_quiet 61 = .ok (.getfield 372, 3) := by decide +kernel
theorem dX6_quiet_64 : decode cX6_quiet 64 = .ok (.isub, 1) := by decide +kernel
theorem dX6_quiet_65 : decode cX6_quiet 65 = .ok (.iconst 2, 1) := by decide +kernel
theorem dX6_quiet_66 : decode cX6_quiet 66 = .ok (.idiv, 1) := by decide +kernel
theorem dX6_quiet_67 : decode cX6_quiet 67 = .ok (.iload_n 2, 1) := by decide +kernel
theorem dX6_quiet_68 : decode cX6_quiet 68 = .ok (.if_icmp .lt 12, 3) := by decide +kernel
theorem dX6_quiet_71 : decode cX6_quiet 71 = .ok (.iload 4, 2) := by decide +kernel
theorem dX6_quiet_73 : decode cX6_quiet 73 = .ok (.iconst 1, 1) := by decide +kernel
theorem dX6_quiet_74 : decode cX6_quiet 74 = .ok (.iload 5, 2) := by decide +kernel
theorem dX6_quiet_76 : decode cX6_quiet 76 = .ok (.ishl, 1) := by decide +kernel
theorem dX6_quiet_77 : decode cX6_quiet 77 = .ok (.ior, 1) := by decide +kernel
theorem dX6_quiet_78 : decode cX6_quiet 78 = .ok (.istore 4, 2) := by decide +kernel
theorem dX6_quiet_80 : decode cX6_quiet 80 = .ok (.iinc 5 1, 3) := by decide +kernel
theorem dX6_quiet_83 : decode cX6_quiet 83 = .ok (.goto (-51), 3) := by decide +kernel
theorem dX6_quiet_86 : decode cX6_quiet 86 = .ok (.iload 4, 2) := by decide +kernel
theorem dX6_quiet_88 : decode cX6_quiet 88 = .ok (.ireturn, 1) := by decide +kernel
theorem dX6_bestShare_0 : decode cX6_bestShare 0 = .ok (.iload_n 1, 1) := by decide +kernel
theorem dX6_bestShare_1 : decode cX6_bestShare 1 = .ok (.iconst 1, 1) := by decide +kernel
theorem dX6_bestShare_2 : decode cX6_bestShare 2 = .ok (.bipush 32, 2) := by decide +kernel
theorem dX6_bestShare_4 : decode cX6_bestShare 4 = .ok (.invokestatic 54, 3) := by decide +kernel
theorem dX6_bestShare_7 : decode cX6_bestShare 7 = .ok (.ifCond .eq 11, 3) := by decide +kernel
theorem dX6_bestShare_10 : decode cX6_bestShare 10 = .ok (.aload_n 0, 1) := by decide +kernel
theorem dX6_bestShare_11 : decode cX6_bestShare 11 = .ok (.iload_n 1, 1) := by decide +kernel
theorem dX6_bestShare_12 : decode cX6_bestShare 12 = .ok (.invokevirtual 213, 3) := by decide +kernel
theorem dX6_bestShare_15 : decode cX6_bestShare 15 = .ok (.ifCond .ne 5, 3) := by decide +kernel
theorem dX6_bestShare_18 : decode cX6_bestShare 18 = .ok (.iconst (-1), 1) := by decide +kernel
theorem dX6_bestShare_19 : decode cX6_bestShare 19 = .ok (.ireturn, 1) := by decide +kernel
theorem dX6_bestShare_20 : decode cX6_bestShare 20 = .ok (.iconst 0, 1) := by decide +kernel
theorem dX6_bestShare_21 : decode cX6_bestShare 21 = .ok (.istore_n 2, 1) := by decide +kernel
theorem dX6_bestShare_22 : decode cX6_bestShare 22 = .ok (.iconst (-1), 1) := by decide +kernel
theorem dX6_bestShare_23 : decode cX6_bestShare 23 = .ok (.istore_n 3, 1) := by decide +kernel
theorem dX6_bestShare_24 : decode cX6_bestShare 24 = .ok (.iconst 0, 1) := by decide +kernel
theorem dX6_bestShare_25 : decode cX6_bestShare 25 = .ok (.istore 4, 2) := by decide +kernel
theorem dX6_bestShare_27 : decode cX6_bestShare 27 = .ok (.iload 4, 2) := by decide +kernel
theorem dX6_bestShare_29 : decode cX6_bestShare 29 = .ok (.bipush 32, 2) := by decide +kernel
theorem dX6_bestShare_31 : decode cX6_bestShare 31 = .ok (.if_icmp .gt 33, 3) := by decide +kernel
theorem dX6_bestShare_34 : decode cX6_bestShare 34 = .ok (.aload_n 0, 1) := by decide +kernel
theorem dX6_bestShare_35 : decode cX6_bestShare 35 = .ok (.iload 4, 2) := by decide +kernel
theorem dX6_bestShare_37 : decode cX6_bestShare 37 = .ok (.invokevirtual 342, 3) := by decide +kernel
theorem dX6_bestShare_40 : decode cX6_bestShare 40 = .ok (.iload_n 1, 1) := by decide +kernel
theorem dX6_bestShare_41 : decode cX6_bestShare 41 = .ok (.invokevirtual 216, 3) := by decide +kernel
theorem dX6_bestShare_44 : decode cX6_bestShare 44 = .ok (.istore 5, 2) := by decide +kernel
theorem dX6_bestShare_46 : decode cX6_bestShare 46 = .ok (.iload 5, 2) := by decide +kernel
theorem dX6_bestShare_48 : decode cX6_bestShare 48 = .ok (.iload_n 3, 1) := by decide +kernel
theorem dX6_bestShare_49 : decode cX6_bestShare 49 = .ok (.if_icmp .le 9, 3) := by decide +kernel
theorem dX6_bestShare_52 : decode cX6_bestShare 52 = .ok (.iload 5, 2) := by decide +kernel
theorem dX6_bestShare_54 : decode cX6_bestShare 54 = .ok (.istore_n 3, 1) := by decide +kernel
theorem dX6_bestShare_55 : decode cX6_bestShare 55 = .ok (.iload 4, 2) := by decide +kernel
theorem dX6_bestShare_57 : decode cX6_bestShare 57 = .ok (.istore_n 2, 1) := by decide +kernel
theorem dX6_bestShare_58 : decode cX6_bestShare 58 = .ok (.iinc 4 2, 3) := by decide +kernel
theorem dX6_bestShare_61 : decode cX6_bestShare 61 = .ok (.goto (-34), 3) := by decide +kernel
theorem dX6_bestShare_64 : decode cX6_bestShare 64 = .ok (.iload_n 2, 1) := by decide +kernel
theorem dX6_bestShare_65 : decode cX6_bestShare 65 = .ok (.ireturn, 1) := by decide +kernel
theorem dX6_ofNet_0 : decode cX6_ofNet 0 = .ok (.aload_n 0, 1) := by decide +kernel
theorem dX6_ofNet_1 : decode cX6_ofNet 1 = .ok (.getfield 12, 3) := by decide +kernel
theorem dX6_ofNet_4 : decode cX6_ofNet 4 = .ok (.iload_n 1, 1) := by decide +kernel
theorem dX6_ofNet_5 : decode cX6_ofNet 5 = .ok (.invokevirtual 95, 3) := by decide +kernel
theorem dX6_ofNet_8 : decode cX6_ofNet 8 = .ok (.astore_n 3, 1) := by decide +kernel
theorem dX6_ofNet_9 : decode cX6_ofNet 9 = .ok (.aload_n 3, 1) := by decide +kernel
theorem dX6_ofNet_10 : decode cX6_ofNet 10 = .ok (.ifnonnull 5, 3) := by decide +kernel
theorem dX6_ofNet_13 : decode cX6_ofNet 13 = .ok (.iconst (-1), 1) := by decide +kernel
theorem dX6_ofNet_14 : decode cX6_ofNet 14 = .ok (.ireturn, 1) := by decide +kernel
theorem dX6_ofNet_15 : decode cX6_ofNet 15 = .ok (.iload_n 2, 1) := by decide +kernel
theorem dX6_ofNet_16 : decode cX6_ofNet 16 = .ok (.tableswitch 79 0 6 #[44, 49, 54, 59, 64, 69, 74], 44) := by decide +kernel
theorem dX6_ofNet_60 : decode cX6_ofNet 60 = .ok (.aload_n 3, 1) := by decide +kernel
theorem dX6_ofNet_61 : decode cX6_ofNet 61 = .ok (.getfield 84, 3) := by decide +kernel
theorem dX6_ofNet_64 : decode cX6_ofNet 64 = .ok (.ireturn, 1) := by decide +kernel
theorem dX6_ofNet_65 : decode cX6_ofNet 65 = .ok (.aload_n 3, 1) := by decide +kernel
theorem dX6_ofNet_66 : decode cX6_ofNet 66 = .ok (.getfield 89, 3) := by decide +kernel
theorem dX6_ofNet_69 : decode cX6_ofNet 69 = .ok (.ireturn, 1) := by decide +kernel
theorem dX6_ofNet_70 : decode cX6_ofNet 70 = .ok (.aload_n 3, 1) := by decide +kernel
theorem dX6_ofNet_71 : decode cX6_ofNet 71 = .ok (.getfield 92, 3) := by decide +kernel
theorem dX6_ofNet_74 : decode cX6_ofNet 74 = .ok (.ireturn, 1) := by decide +kernel
theorem dX6_ofNet_75 : decode cX6_ofNet 75 = .ok (.aload_n 3, 1) := by decide +kernel
theorem dX6_ofNet_76 : decode cX6_ofNet 76 = .ok (.getfield 375, 3) := by decide +kernel
theorem dX6_ofNet_79 : decode cX6_ofNet 79 = .ok (.ireturn, 1) := by decide +kernel
theorem dX6_ofNet_80 : decode cX6_ofNet 80 = .ok (.aload_n 3, 1) := by decide +kernel
theorem dX6_ofNet_81 : decode cX6_ofNet 81 = .ok (.getfield 181, 3) := by decide +kernel
theorem dX6_ofNet_84 : decode cX6_ofNet 84 = .ok (.ireturn, 1) := by decide +kernel
theorem dX6_ofNet_85 : decode cX6_ofNet 85 = .ok (.aload_n 3, 1) := by decide +kernel
theorem dX6_ofNet_86 : decode cX6_ofNet 86 = .ok (.getfield 378, 3) := by decide +kernel
theorem dX6_ofNet_89 : decode cX6_ofNet 89 = .ok (.ireturn, 1) := by decide +kernel
theorem dX6_ofNet_90 : decode cX6_ofNet 90 = .ok (.aload_n 3, 1) := by decide +kernel
theorem dX6_ofNet_91 : decode cX6_ofNet 91 = .ok (.getfield 381, 3) := by decide +kernel
theorem dX6_ofNet_94 : decode cX6_ofNet 94 = .ok (.ireturn, 1) := by decide +kernel
theorem dX6_ofNet_95 : decode cX6_ofNet 95 = .ok (.iconst (-1), 1) := by decide +kernel
theorem dX6_ofNet_96 : decode cX6_ofNet 96 = .ok (.ireturn, 1) := by decide +kernel
theorem dX6_count_0 : decode cX6_count 0 = .ok (.iload_n 1, 1) := by decide +kernel
theorem dX6_count_1 : decode cX6_count 1 = .ok (.tableswitch 269 0 19 #[95, 103, 111, 119, 127, 135, 142, 149, 156, 163, 168, 178, 188, 198, 208, 218, 228, 239, 250, 258], 95) := by decide +kernel
theorem dX6_count_96 : decode cX6_count 96 = .ok (.aload_n 0, 1) := by decide +kernel
theorem dX6_count_97 : decode cX6_count 97 = .ok (.getfield 12, 3) := by decide +kernel
theorem dX6_count_100 : decode cX6_count 100 = .ok (.getfield 102, 3) := by decide +kernel
theorem dX6_count_103 : decode cX6_count 103 = .ok (.ireturn, 1) := by decide +kernel
theorem dX6_count_104 : decode cX6_count 104 = .ok (.aload_n 0, 1) := by decide +kernel
theorem dX6_count_105 : decode cX6_count 105 = .ok (.getfield 12, 3) := by decide +kernel
theorem dX6_count_108 : decode cX6_count 108 = .ok (.getfield 62, 3) := by decide +kernel
theorem dX6_count_111 : decode cX6_count 111 = .ok (.ireturn, 1) := by decide +kernel
theorem dX6_count_112 : decode cX6_count 112 = .ok (.aload_n 0, 1) := by decide +kernel
theorem dX6_count_113 : decode cX6_count 113 = .ok (.getfield 12, 3) := by decide +kernel
theorem dX6_count_116 : decode cX6_count 116 = .ok (.getfield 123, 3) := by decide +kernel
theorem dX6_count_119 : decode cX6_count 119 = .ok (.ireturn, 1) := by decide +kernel
theorem dX6_count_120 : decode cX6_count 120 = .ok (.aload_n 0, 1) := by decide +kernel
theorem dX6_count_121 : decode cX6_count 121 = .ok (.getfield 12, 3) := by decide +kernel
theorem dX6_count_124 : decode cX6_count 124 = .ok (.getfield 126, 3) := by decide +kernel
theorem dX6_count_127 : decode cX6_count 127 = .ok (.ireturn, 1) := by decide +kernel
theorem dX6_count_128 : decode cX6_count 128 = .ok (.aload_n 0, 1) := by decide +kernel
theorem dX6_count_129 : decode cX6_count 129 = .ok (.getfield 12, 3) := by decide +kernel
theorem dX6_count_132 : decode cX6_count 132 = .ok (.invokevirtual 382, 3) := by decide +kernel
theorem dX6_count_135 : decode cX6_count 135 = .ok (.ireturn, 1) := by decide +kernel
theorem dX6_count_136 : decode cX6_count 136 = .ok (.aload_n 0, 1) := by decide +kernel
theorem dX6_count_137 : decode cX6_count 137 = .ok (.getfield 41, 3) := by decide +kernel
theorem dX6_count_140 : decode cX6_count 140 = .ok (.iconst 0, 1) := by decide +kernel
theorem dX6_count_141 : decode cX6_count 141 = .ok (.iaload, 1) := by decide +kernel
theorem dX6_count_142 : decode cX6_count 142 = .ok (.ireturn, 1) := by decide +kernel
theorem dX6_count_143 : decode cX6_count 143 = .ok (.aload_n 0, 1) := by decide +kernel
theorem dX6_count_144 : decode cX6_count 144 = .ok (.getfield 41, 3) := by decide +kernel
theorem dX6_count_147 : decode cX6_count 147 = .ok (.iconst 1, 1) := by decide +kernel
theorem dX6_count_148 : decode cX6_count 148 = .ok (.iaload, 1) := by decide +kernel
theorem dX6_count_149 : decode cX6_count 149 = .ok (.ireturn, 1) := by decide +kernel
theorem dX6_count_150 : decode cX6_count 150 = .ok (.aload_n 0, 1) := by decide +kernel
theorem dX6_count_151 : decode cX6_count 151 = .ok (.getfield 41, 3) := by decide +kernel
theorem dX6_count_154 : decode cX6_count 154 = .ok (.iconst 3, 1) := by decide +kernel
theorem dX6_count_155 : decode cX6_count 155 = .ok (.iaload, 1) := by decide +kernel
theorem dX6_count_156 : decode cX6_count 156 = .ok (.ireturn, 1) := by decide +kernel
theorem dX6_count_157 : decode cX6_count 157 = .ok (.aload_n 0, 1) := by decide +kernel
theorem dX6_count_158 : decode cX6_count 158 = .ok (.getfield 41, 3) := by decide +kernel
theorem dX6_count_161 : decode cX6_count 161 = .ok (.iconst 4, 1) := by decide +kernel
theorem dX6_count_162 : decode cX6_count 162 = .ok (.iaload, 1) := by decide +kernel
theorem dX6_count_163 : decode cX6_count 163 = .ok (.ireturn, 1) := by decide +kernel
theorem dX6_count_164 : decode cX6_count 164 = .ok (.aload_n 0, 1) := by decide +kernel
theorem dX6_count_165 : decode cX6_count 165 = .ok (.getfield 38, 3) := by decide +kernel
theorem dX6_count_168 : decode cX6_count 168 = .ok (.ireturn, 1) := by decide +kernel
theorem dX6_count_169 : decode cX6_count 169 = .ok (.aload_n 0, 1) := by decide +kernel
theorem dX6_count_170 : decode cX6_count 170 = .ok (.getfield 12, 3) := by decide +kernel
theorem dX6_count_173 : decode cX6_count 173 = .ok (.getfield 385, 3) := by decide +kernel
theorem dX6_count_176 : decode cX6_count 176 = .ok (.iconst 0, 1) := by decide +kernel
theorem dX6_count_177 : decode cX6_count 177 = .ok (.iaload, 1) := by decide +kernel
theorem dX6_count_178 : decode cX6_count 178 = .ok (.ireturn, 1) := by decide +kernel
theorem dX6_count_179 : decode cX6_count 179 = .ok (.aload_n 0, 1) := by decide +kernel
theorem dX6_count_180 : decode cX6_count 180 = .ok (.getfield 12, 3) := by decide +kernel
theorem dX6_count_183 : decode cX6_count 183 = .ok (.getfield 385, 3) := by decide +kernel
theorem dX6_count_186 : decode cX6_count 186 = .ok (.iconst 1, 1) := by decide +kernel
theorem dX6_count_187 : decode cX6_count 187 = .ok (.iaload, 1) := by decide +kernel
theorem dX6_count_188 : decode cX6_count 188 = .ok (.ireturn, 1) := by decide +kernel
theorem dX6_count_189 : decode cX6_count 189 = .ok (.aload_n 0, 1) := by decide +kernel
theorem dX6_count_190 : decode cX6_count 190 = .ok (.getfield 12, 3) := by decide +kernel
theorem dX6_count_193 : decode cX6_count 193 = .ok (.getfield 385, 3) := by decide +kernel
theorem dX6_count_196 : decode cX6_count 196 = .ok (.iconst 2, 1) := by decide +kernel
theorem dX6_count_197 : decode cX6_count 197 = .ok (.iaload, 1) := by decide +kernel
theorem dX6_count_198 : decode cX6_count 198 = .ok (.ireturn, 1) := by decide +kernel
theorem dX6_count_199 : decode cX6_count 199 = .ok (.aload_n 0, 1) := by decide +kernel
theorem dX6_count_200 : decode cX6_count 200 = .ok (.getfield 12, 3) := by decide +kernel
theorem dX6_count_203 : decode cX6_count 203 = .ok (.getfield 385, 3) := by decide +kernel
theorem dX6_count_206 : decode cX6_count 206 = .ok (.iconst 3, 1) := by decide +kernel
theorem dX6_count_207 : decode cX6_count 207 = .ok (.iaload, 1) := by decide +kernel
theorem dX6_count_208 : decode cX6_count 208 = .ok (.ireturn, 1) := by decide +kernel
theorem dX6_count_209 : decode cX6_count 209 = .ok (.aload_n 0, 1) := by decide +kernel
theorem dX6_count_210 : decode cX6_count 210 = .ok (.getfield 12, 3) := by decide +kernel
theorem dX6_count_213 : decode cX6_count 213 = .ok (.getfield 385, 3) := by decide +kernel
theorem dX6_count_216 : decode cX6_count 216 = .ok (.iconst 4, 1) := by decide +kernel
theorem dX6_count_217 : decode cX6_count 217 = .ok (.iaload, 1) := by decide +kernel
theorem dX6_count_218 : decode cX6_count 218 = .ok (.ireturn, 1) := by decide +kernel
theorem dX6_count_219 : decode cX6_count 219 = .ok (.aload_n 0, 1) := by decide +kernel
theorem dX6_count_220 : decode cX6_count 220 = .ok (.getfield 12, 3) := by decide +kernel
theorem dX6_count_223 : decode cX6_count 223 = .ok (.getfield 385, 3) := by decide +kernel
theorem dX6_count_226 : decode cX6_count 226 = .ok (.iconst 5, 1) := by decide +kernel
theorem dX6_count_227 : decode cX6_count 227 = .ok (.iaload, 1) := by decide +kernel
theorem dX6_count_228 : decode cX6_count 228 = .ok (.ireturn, 1) := by decide +kernel
theorem dX6_count_229 : decode cX6_count 229 = .ok (.aload_n 0, 1) := by decide +kernel
theorem dX6_count_230 : decode cX6_count 230 = .ok (.getfield 12, 3) := by decide +kernel
theorem dX6_count_233 : decode cX6_count 233 = .ok (.getfield 385, 3) := by decide +kernel
theorem dX6_count_236 : decode cX6_count 236 = .ok (.bipush 6, 2) := by decide +kernel
theorem dX6_count_238 : decode cX6_count 238 = .ok (.iaload, 1) := by decide +kernel
theorem dX6_count_239 : decode cX6_count 239 = .ok (.ireturn, 1) := by decide +kernel
theorem dX6_count_240 : decode cX6_count 240 = .ok (.aload_n 0, 1) := by decide +kernel
theorem dX6_count_241 : decode cX6_count 241 = .ok (.getfield 12, 3) := by decide +kernel
theorem dX6_count_244 : decode cX6_count 244 = .ok (.getfield 385, 3) := by decide +kernel
theorem dX6_count_247 : decode cX6_count 247 = .ok (.bipush 7, 2) := by decide +kernel
theorem dX6_count_249 : decode cX6_count 249 = .ok (.iaload, 1) := by decide +kernel
theorem dX6_count_250 : decode cX6_count 250 = .ok (.ireturn, 1) := by decide +kernel
theorem dX6_count_251 : decode cX6_count 251 = .ok (.aload_n 0, 1) := by decide +kernel
theorem dX6_count_252 : decode cX6_count 252 = .ok (.getfield 12, 3) := by decide +kernel
theorem dX6_count_255 : decode cX6_count 255 = .ok (.getfield 129, 3) := by decide +kernel
theorem dX6_count_258 : decode cX6_count 258 = .ok (.ireturn, 1) := by decide +kernel
theorem dX6_count_259 : decode cX6_count 259 = .ok (.aload_n 0, 1) := by decide +kernel
theorem dX6_count_260 : decode cX6_count 260 = .ok (.getfield 12, 3) := by decide +kernel
theorem dX6_count_263 : decode cX6_count 263 = .ok (.getfield 385, 3) := by decide +kernel
theorem dX6_count_266 : decode cX6_count 266 = .ok (.bipush 8, 2) := by decide +kernel
theorem dX6_count_268 : decode cX6_count 268 = .ok (.iaload, 1) := by decide +kernel
theorem dX6_count_269 : decode cX6_count 269 = .ok (.ireturn, 1) := by decide +kernel
theorem dX6_count_270 : decode cX6_count 270 = .ok (.iconst (-1), 1) := by decide +kernel
theorem dX6_count_271 : decode cX6_count 271 = .ok (.ireturn, 1) := by decide +kernel
theorem dX6_status_0 : decode cX6_status 0 = .ok (.aload_n 0, 1) := by decide +kernel
theorem dX6_status_1 : decode cX6_status 1 = .ok (.getfield 44, 3) := by decide +kernel
theorem dX6_status_4 : decode cX6_status 4 = .ok (.ireturn, 1) := by decide +kernel
theorem lk_RX6_325 : LkV RX6 325 RX5 yX5_clearOf cX5_clearOf 7 (some .int) 3 := ⟨⟨mw_925, mw_926, mw_927, mw_53, mw_928⟩, by decide +kernel⟩
theorem lk_RX6_329 : LkS RX6 329 yX6_greatestDivisor cX6_greatestDivisor 6 (some .int) 2 := ⟨⟨mw_929, mw_930, mw_52, mw_931⟩, by decide +kernel⟩
set_option maxHeartbeats 4000000 in
set_option maxRecDepth 100000 in
theorem d_X6_odds (l : Launch) (E : hE) (ρ r : Nat → Nat → Int32) (a1 : Int32) (a2 : Int32) (a3 : Int32) (a4 : Int32) (hI : CI r S0 ρ) : Met l yX6_odds (.code yX6_odds cX6_odds 9 (some .int) :: gw_all) (rmk 5 200) (cPre E ρ [.ref (E.2.1 + 0), .int a1, .int a2, .int a3, .int a4]) (cI E (fun v ρ1 => ρ = ρ1 ∧ CI r S0 ρ1)) 0 0 (hA E) := by
  refine ent (own := RX6) (by decide) rfl (Nat.le_of_ble_eq_true rfl) ?_
  intro p e s m below meth c ls B hr hlk hl hP hS
  have hx := B.1.1
  have hb := B.1.2.1
  have hown := B.1.2.2.2.1
  have hts := B.1.2.2.2.2
  have hl : lv_has ls 9 [(0, .ref (E.2.1 + 0)), (1, .int a1), (2, .int a2), (3, .int a3), (4, .int a4)] := hl
  have b44_0 : ∀ (ls : Array Slot) (H : Heap) (locs : List Loc) (d44 : Nat) (k44_5 : Nat) (x44_6 : Int32) (j44_7 : Nat), lv_has ls 9 [(0, .ref (E.2.1 + 0)), (1, .int a1), (3, .int a3), (4, .int a4), (5, .ref (E.2.1 + k44_5)), (6, .int x44_6), (7, .int (nI j44_7))] → WP E ρ H → va_S (hA E) s.heap H locs → 65 - j44_7 < d44 → hk k44_5 = 1 → iR x44_6 (-2147483648) (2147483647) → 0 ≤ j44_7 → j44_7 ≤ 64 → iR a1 (0) (1) → iR a3 (1) (64) → iR a4 (0) (1) → W p l e (rmk 5 200) s m ([.ref (E.2.1 + 0), .int a1, .int a2, .int a3, .int a4] : List Value).toArray below meth c H locs 0 0 (MQ below (cI E (fun v ρ1 => ρ = ρ1 ∧ CI r S0 ρ1)) ([.ref (E.2.1 + 0), .int a1, .int a2, .int a3, .int a4] : List Value).toArray s 0 0 (hA E)) (F0 m 44 ls []) := by
    intro ls H locs d44
    induction d44 generalizing ls H locs with
    | zero => intro k44_5 x44_6 j44_7 hl hP hS hd44 hk44_5 hx44_6 lj44_7 uj44_7 fa1 fa3 fa4; exact absurd hd44 (Nat.not_lt_zero _)
    | succ d44 ih44 =>
      intro k44_5 x44_6 j44_7 hl hP hS hd44 hk44_5 hx44_6 lj44_7 uj44_7 fa1 fa3 fa4
      refine lv_iload hx hb dX6_odds_44 (lv_at hl 6 rfl) ?_
      refine lv_iload_n hx hb dX6_odds_46 rfl (lv_at hl 2 rfl) ?_
      obtain ⟨j301, lj301, uj301, ej301⟩ := iR_nat (a := 1) (b := 64) fa3
      refine lv_topi (fun z302 ez302 => ?_)
      obtain rfl : z302 = nI j301 := ez302.trans ej301
      refine lv_icmp_ge (tgt := 102) hx hb dX6_odds_47 (by decide) (fun c303 => ?_) (fun c303 => ?_)
      · skip
        have n304 := mt (nx_lt (a := j44_7) (b := j301) (by omega) (by omega)).mpr (show ¬ (nI j44_7 < nI j301) from (Int32.not_lt.mpr c303))
        refine lv_sipush (v := 256) hx hb dX6_odds_102 (by decide) ?_
        refine lv_iload_n hx hb dX6_odds_105 rfl (lv_at hl 2 rfl) ?_
        refine lv_topi (fun z305 ez305 => ?_)
        obtain rfl : z305 = nI j301 := ez305.trans ej301
        refine lv_imul hx hb dX6_odds_106 ?_
        refine lv_topi (fun z306 ez306 => ?_)
        obtain rfl : z306 = (nI (256 * j301)) := ez306.trans (by rw [show 256 = nI 256 from rfl, show (nI j301) = nI j301 from rfl, nI_mul] <;> exact congrArg nI (by omega))
        refine lv_istore (lv' := [(7, .int (nI (256 * j301))), (0, .ref (E.2.1 + 0)), (1, .int a1), (3, .int a3), (4, .int a4), (5, .ref (E.2.1 + k44_5)), (6, .int x44_6)]) hx hb dX6_odds_107 hl (by decide) rfl (fun ls hl => ?_)
        refine lv_iload hx hb dX6_odds_109 (lv_at hl 0 rfl) ?_
        refine lv_iload hx hb dX6_odds_111 (lv_at hl 6 rfl) ?_
        refine call_i (cS (av := [.int (nI (256 * j301)), .int x44_6]) (rest := []) B hP hS (d_X6_greatestDivisor l E ρ r S0 hS0 (nI (256 * j301)) x44_6 hI) lk_RX6_329 rfl rfl hl.1 (Nat.le_of_ble_eq_true rfl) ⟨Nat.le_of_ble_eq_true rfl, Nat.le_of_ble_eq_true rfl⟩ ⟨Nat.le_of_ble_eq_true rfl, Nat.le_of_ble_eq_true rfl⟩ dX6_odds_113) hS (fun r307 ρ308 H locs q309 hP hS => ?_)
        obtain ⟨rfl, hI⟩ := q309
        refine lv_istore (lv' := [(8, .int r307), (7, .int (nI (256 * j301))), (0, .ref (E.2.1 + 0)), (1, .int a1), (3, .int a3), (4, .int a4), (5, .ref (E.2.1 + k44_5)), (6, .int x44_6)]) hx hb dX6_odds_116 hl (by decide) rfl (fun ls hl => ?_)
        refine lv_iload hx hb dX6_odds_118 (lv_at hl 0 rfl) ?_
        refine lv_if_ne (tgt := 127) hx hb dX6_odds_120 (by decide) (fun c311 => ?_) (fun c311 => ?_)
        · skip
          refine lv_iload hx hb dX6_odds_127 (lv_at hl 5 rfl) ?_
          obtain ⟨j312, lj312, uj312, ej312⟩ := iR_nat (a := 0) (b := 1) fa4
          refine lv_topi (fun z313 ez313 => ?_)
          obtain rfl : z313 = nI j312 := ez313.trans ej312
          refine lv_if_ne (tgt := 137) hx hb dX6_odds_129 (by decide) (fun c314 => ?_) (fun c314 => ?_)
          · skip
            have n315 := mt (nI_eq (a := j312) (b := 0) (by omega) (by omega)).mpr (show ¬ (nI j312 = nI 0) from c314)
            refine lv_iload hx hb dX6_odds_137 (lv_at hl 1 rfl) ?_
            refine lv_iload hx hb dX6_odds_139 (lv_at hl 0 rfl) ?_
            refine lv_idiv hx hb dX6_odds_141 c311 ?_
            exact ret_i B hr hlk hP hS dX6_odds_142 (⟨rfl, hI⟩)
          · skip
            have n316 := (nI_eq (a := j312) (b := 0) (by omega) (by omega)).mp (show (nI j312 = nI 0) from c314)
            refine lv_iload hx hb dX6_odds_132 (lv_at hl 7 rfl) ?_
            refine lv_goto (tgt := 139) hx hb dX6_odds_134 (by decide) ?_
            refine lv_iload hx hb dX6_odds_139 (lv_at hl 0 rfl) ?_
            refine lv_idiv hx hb dX6_odds_141 c311 ?_
            exact ret_i B hr hlk hP hS dX6_odds_142 (⟨rfl, hI⟩)
        · skip
          have i317 : iR r307 (0) (0) := (by rw [c311]; exact ⟨by decide, by decide⟩)
          refine lv_iconst (v := (-1)) hx hb dX6_odds_123 (by decide) ?_
          refine lv_goto (tgt := 142) hx hb dX6_odds_124 (by decide) ?_
          exact ret_i B hr hlk hP hS dX6_odds_142 (⟨rfl, hI⟩)
      · skip
        have n318 := (nx_lt (a := j44_7) (b := j301) (by omega) (by omega)).mp (show (nI j44_7 < nI j301) from (Int32.not_le.mp c303))
        refine lv_aload_n hx hb dX6_odds_50 rfl (lv_at hl 0 rfl) ?_
        refine get6 B hP (show hk 0 = 6 by decide +kernel) 0 (by decide) mw_412 rfl dX6_odds_51 ?_
        refine get5 B hP (show hk 1 = 5 by decide +kernel) 5 (by decide) mw_382 rfl dX6_odds_54 ?_
        refine lv_iconst (v := 2) hx hb dX6_odds_57 (by decide) ?_
        refine lv_iload hx hb dX6_odds_58 (lv_at hl 6 rfl) ?_
        refine lv_imul hx hb dX6_odds_60 ?_
        refine lv_topi (fun z319 ez319 => ?_)
        obtain rfl : z319 = (nI (2 * j44_7)) := ez319.trans (by rw [show 2 = nI 2 from rfl, show (nI j44_7) = nI j44_7 from rfl, nI_mul] <;> exact congrArg nI (by omega))
        refine lv_iadd hx hb dX6_odds_61 ?_
        refine lv_istore (lv' := [(8, .int ((ρ 1 5) + (nI (2 * j44_7)))), (0, .ref (E.2.1 + 0)), (1, .int a1), (3, .int a3), (4, .int a4), (5, .ref (E.2.1 + k44_5)), (6, .int x44_6), (7, .int (nI j44_7))]) hx hb dX6_odds_62 hl (by decide) rfl (fun ls hl => ?_)
        refine lv_iload hx hb dX6_odds_64 (lv_at hl 6 rfl) ?_
        refine lv_aload_n hx hb dX6_odds_66 rfl (lv_at hl 1 rfl) ?_
        refine get6 B hP (show hk 0 = 6 by decide +kernel) 0 (by decide) mw_412 rfl dX6_odds_67 ?_
        refine lv_iload_n hx hb dX6_odds_70 rfl (lv_at hl 2 rfl) ?_
        obtain ⟨j320, lj320, uj320, ej320⟩ := iR_nat (a := 0) (b := 1) fa1
        refine lv_topi (fun z321 ez321 => ?_)
        obtain rfl : z321 = nI j320 := ez321.trans ej320
        refine lv_aload hx hb dX6_odds_71 (lv_at hl 5 rfl) ?_
        refine lv_iload hx hb dX6_odds_73 (lv_at hl 0 rfl) ?_
        refine call_i (cVt (k := 1) (av := [.int (nI j320), .ref (E.2.1 + k44_5), .int ((ρ 1 5) + (nI (2 * j44_7)))]) (rest := [.int x44_6]) B hP hS (d_X5_clearOf l E ρ r S0 hS0 1 (show hk 1 = 5 by decide +kernel) j320 (by omega) (by omega) k44_5 hk44_5 ((ρ 1 5) + (nI (2 * j44_7))) hI) lk_RX6_325 (hrecv (ci := 5) B hP (hk_lt (c := 5) (show hk 1 = 5 by decide +kernel) (by decide)) (hcc5 _ _ (show hk 1 = 5 by decide +kernel)) rfl) rfl rfl hl.1 (Nat.le_of_ble_eq_true rfl) ⟨Nat.le_of_ble_eq_true rfl, Nat.le_of_ble_eq_true rfl⟩ ⟨Nat.le_of_ble_eq_true rfl, Nat.le_of_ble_eq_true rfl⟩ dX6_odds_75) hS (fun r322 ρ323 H locs q324 hP hS => ?_)
        obtain ⟨rfl, hI⟩ := q324
        refine lv_aload_n hx hb dX6_odds_78 rfl (lv_at hl 1 rfl) ?_
        refine get6 B hP (show hk 0 = 6 by decide +kernel) 0 (by decide) mw_412 rfl dX6_odds_79 ?_
        refine lv_iload_n hx hb dX6_odds_82 rfl (lv_at hl 2 rfl) ?_
        refine lv_topi (fun z326 ez326 => ?_)
        obtain rfl : z326 = nI j320 := ez326.trans ej320
        refine lv_aload hx hb dX6_odds_83 (lv_at hl 5 rfl) ?_
        refine lv_iload hx hb dX6_odds_85 (lv_at hl 0 rfl) ?_
        refine lv_iconst (v := 1) hx hb dX6_odds_87 (by decide) ?_
        refine lv_iadd hx hb dX6_odds_88 ?_
        refine call_i (cVt (k := 1) (av := [.int (nI j320), .ref (E.2.1 + k44_5), .int (((ρ 1 5) + (nI (2 * j44_7))) + 1)]) (rest := [.int r322, .int x44_6]) B hP hS (d_X5_clearOf l E ρ r S0 hS0 1 (show hk 1 = 5 by decide +kernel) j320 (by omega) (by omega) k44_5 hk44_5 (((ρ 1 5) + (nI (2 * j44_7))) + 1) hI) lk_RX6_325 (hrecv (ci := 5) B hP (hk_lt (c := 5) (show hk 1 = 5 by decide +kernel) (by decide)) (hcc5 _ _ (show hk 1 = 5 by decide +kernel)) rfl) rfl rfl hl.1 (Nat.le_of_ble_eq_true rfl) ⟨Nat.le_of_ble_eq_true rfl, Nat.le_of_ble_eq_true rfl⟩ ⟨Nat.le_of_ble_eq_true rfl, Nat.le_of_ble_eq_true rfl⟩ dX6_odds_89) hS (fun r327 ρ328 H locs q329 hP hS => ?_)
        obtain ⟨rfl, hI⟩ := q329
        refine lv_imul hx hb dX6_odds_92 ?_
        refine lv_iadd hx hb dX6_odds_93 ?_
        refine lv_istore (lv' := [(6, .int (x44_6 + (r322 * r327))), (8, .int ((ρ 1 5) + (nI (2 * j44_7)))), (0, .ref (E.2.1 + 0)), (1, .int a1), (3, .int a3), (4, .int a4), (5, .ref (E.2.1 + k44_5)), (7, .int (nI j44_7))]) hx hb dX6_odds_94 hl (by decide) rfl (fun ls hl => ?_)
        refine lv_iinc (v := (nI (1 + j44_7))) (lv' := [(7, .int (nI (1 + j44_7))), (6, .int (x44_6 + (r322 * r327))), (8, .int ((ρ 1 5) + (nI (2 * j44_7)))), (0, .ref (E.2.1 + 0)), (1, .int a1), (3, .int a3), (4, .int a4), (5, .ref (E.2.1 + k44_5))]) hx hb dX6_odds_96 hl (k := 7) rfl (show nI j44_7 + nI 1 = _ from (nI_add _ _).trans (congrArg nI (by omega))) (by decide) rfl (fun ls hl => ?_)
        refine lv_goto (tgt := 44) hx hb dX6_odds_99 (by decide) ?_
        exact ih44 ls _ _ k44_5 ((x44_6 + (r322 * r327)) : Int32) (1 + j44_7) (lv_sub hl [3, 4, 5, 6, 7, 1, 0] rfl) hP hS (by omega) hk44_5 (iR_w (iR_any (x44_6 + (r322 * r327))) (by decide) (by decide)) (by omega) (by omega) (iR_w fa1 (by decide) (by decide)) (iR_w fa3 (by decide) (by decide)) (iR_w fa4 (by decide) (by decide))
  refine lv_aload_n hx hb dX6_odds_0 rfl (lv_at hl 0 rfl) ?_
  refine get6 B hP (show hk 0 = 6 by decide +kernel) 0 (by decide) mw_412 rfl dX6_odds_1 ?_
  refine lv_iload_n hx hb dX6_odds_4 rfl (lv_at hl 1 rfl) ?_
  refine lv_iload_n hx hb dX6_odds_5 rfl (lv_at hl 2 rfl) ?_
  refine call_q (cVt (k := 1) (av := [.int a1, .int a2]) (rest := []) B hP hS (d_X5_linkAt l E ρ r S0 hS0 1 (show hk 1 = 5 by decide +kernel) a1 a2 hI) lk_RX6_132 (hrecv (ci := 5) B hP (hk_lt (c := 5) (show hk 1 = 5 by decide +kernel) (by decide)) (hcc5 _ _ (show hk 1 = 5 by decide +kernel)) rfl) rfl rfl hl.1 (Nat.le_of_ble_eq_true rfl) ⟨Nat.le_of_ble_eq_true rfl, Nat.le_of_ble_eq_true rfl⟩ ⟨Nat.le_of_ble_eq_true rfl, Nat.le_of_ble_eq_true rfl⟩ dX6_odds_6) hS (fun r331 ρ332 H locs q333 hP hS => ?_)
  obtain ⟨rfl, hI, q333⟩ := q333
  rcases q333 with rfl | ⟨j334, k335, rfl, hk335, ej334, uj334⟩
  · skip
    refine W.eq (g2 := F0 m 9 ls [.null]) rfl ?_
    refine lv_astoreN (lv' := [(5, .null), (0, .ref (E.2.1 + 0)), (1, .int a1), (2, .int a2), (3, .int a3), (4, .int a4)]) hx hb dX6_odds_9 hl (by decide) rfl (fun ls hl => ?_)
    refine lv_aloadN hx hb dX6_odds_11 (lv_at hl 0 rfl) ?_
    refine lv_ifnullN (tgt := 36) hx hb dX6_odds_13 (by decide) ?_
    refine lv_iconst (v := (-1)) hx hb dX6_odds_36 (by decide) ?_
    exact ret_i B hr hlk hP hS dX6_odds_37 (⟨rfl, hI⟩)
  · skip
    refine W.eq (g2 := F0 m 9 ls [.ref (E.2.1 + k335)]) rfl ?_
    refine lv_astore (lv' := [(5, .ref (E.2.1 + k335)), (0, .ref (E.2.1 + 0)), (1, .int a1), (2, .int a2), (3, .int a3), (4, .int a4)]) hx hb dX6_odds_9 hl (by decide) rfl (fun ls hl => ?_)
    refine lv_aload hx hb dX6_odds_11 (lv_at hl 0 rfl) ?_
    refine lv_ifnull hx hb dX6_odds_13 ?_
    refine lv_iload_n hx hb dX6_odds_16 rfl (lv_at hl 4 rfl) ?_
    refine lv_iconst (v := 1) hx hb dX6_odds_17 (by decide) ?_
    refine lv_bipush (v := 64) hx hb dX6_odds_18 (by decide) ?_
    refine call_i (cS (av := [.int a3, .int 1, .int 64]) (rest := []) B hP hS (c_isWithin l E ρ a3 1 64 1 64 (by decide) (by decide)) lk_RX6_54 rfl rfl hl.1 (Nat.le_of_ble_eq_true rfl) ⟨Nat.le_of_ble_eq_true rfl, Nat.le_of_ble_eq_true rfl⟩ ⟨Nat.le_of_ble_eq_true rfl, Nat.le_of_ble_eq_true rfl⟩ dX6_odds_20) hS (fun r336 ρ337 H locs q338 hP hS => ?_)
    obtain ⟨rfl, q338⟩ := q338
    rcases q338 with ⟨rfl, q338⟩ | ⟨rfl, q338⟩
    · skip
      refine lv_if_eq (tgt := 36) hx hb dX6_odds_23 (by decide) (fun c339 => absurd c339 (iR_ne (show iR 1 (1) (1) from ⟨by decide, by decide⟩) (show iR 0 (0) (0) from ⟨by decide, by decide⟩) (by decide))) (fun _ => ?_)
      refine lv_iload hx hb dX6_odds_26 (lv_at hl 5 rfl) ?_
      refine lv_iconst (v := 0) hx hb dX6_odds_28 (by decide) ?_
      refine lv_iconst (v := 1) hx hb dX6_odds_29 (by decide) ?_
      refine call_i (cS (av := [.int a4, .int 0, .int 1]) (rest := []) B hP hS (c_isWithin l E ρ a4 0 1 0 1 (by decide) (by decide)) lk_RX6_54 rfl rfl hl.1 (Nat.le_of_ble_eq_true rfl) ⟨Nat.le_of_ble_eq_true rfl, Nat.le_of_ble_eq_true rfl⟩ ⟨Nat.le_of_ble_eq_true rfl, Nat.le_of_ble_eq_true rfl⟩ dX6_odds_30) hS (fun r340 ρ341 H locs q342 hP hS => ?_)
      obtain ⟨rfl, q342⟩ := q342
      rcases q342 with ⟨rfl, q342⟩ | ⟨rfl, q342⟩
      · skip
        refine lv_if_ne (tgt := 38) hx hb dX6_odds_33 (by decide) (fun _ => ?_) (fun c343 => absurd c343 (iR_ne (show iR 1 (1) (1) from ⟨by decide, by decide⟩) (show iR 0 (0) (0) from ⟨by decide, by decide⟩) (by decide)))
        refine lv_iconst (v := 0) hx hb dX6_odds_38 (by decide) ?_
        refine lv_istore (lv' := [(6, .int 0), (5, .ref (E.2.1 + k335)), (0, .ref (E.2.1 + 0)), (1, .int a1), (2, .int a2), (3, .int a3), (4, .int a4)]) hx hb dX6_odds_39 hl (by decide) rfl (fun ls hl => ?_)
        refine lv_iconst (v := 0) hx hb dX6_odds_41 (by decide) ?_
        refine lv_istore (lv' := [(7, .int 0), (6, .int 0), (5, .ref (E.2.1 + k335)), (0, .ref (E.2.1 + 0)), (1, .int a1), (2, .int a2), (3, .int a3), (4, .int a4)]) hx hb dX6_odds_42 hl (by decide) rfl (fun ls hl => ?_)
        exact b44_0 ls _ _ _ k335 (0 : Int32) 0 (lv_sub hl [3, 4, 6, 7, 2, 1, 0] rfl) hP hS (Nat.lt_succ_self _) hk335 (iR_w (show iR 0 (0) (0) from ⟨by decide, by decide⟩) (by decide) (by decide)) (by omega) (by omega) (iR_w (show iR a1 0 1 from by rw [ej334]; exact nI_iR (by omega) (by omega) (by omega)) (by decide) (by decide)) (iR_w q338 (by decide) (by decide)) (iR_w q342 (by decide) (by decide))
      · skip
        refine lv_if_ne (tgt := 38) hx hb dX6_odds_33 (by decide) (fun c344 => absurd rfl c344) (fun _ => ?_)
        refine lv_iconst (v := (-1)) hx hb dX6_odds_36 (by decide) ?_
        exact ret_i B hr hlk hP hS dX6_odds_37 (⟨rfl, hI⟩)
    · skip
      refine lv_if_eq (tgt := 36) hx hb dX6_odds_23 (by decide) (fun _ => ?_) (fun c345 => absurd rfl c345)
      refine lv_iconst (v := (-1)) hx hb dX6_odds_36 (by decide) ?_
      exact ret_i B hr hlk hP hS dX6_odds_37 (⟨rfl, hI⟩)

set_option maxHeartbeats 4000000 in
set_option maxRecDepth 100000 in
theorem d_X6_clashes (l : Launch) (E : hE) (ρ r : Nat → Nat → Int32) (a1 : Int32) (hI : CI r S0 ρ) : Met l yX6_clashes (.code yX6_clashes cX6_clashes 4 (some .int) :: gw_all) (rmk 6 240) (cPre E ρ [.ref (E.2.1 + 0), .int a1]) (cI E (fun v ρ1 => ρ = ρ1 ∧ CI r S0 ρ1)) 0 0 (hA E) := by
  refine ent (own := RX6) (by decide) rfl (Nat.le_of_ble_eq_true rfl) ?_
  intro p e s m below meth c ls B hr hlk hl hP hS
  have hx := B.1.1
  have hb := B.1.2.1
  have hown := B.1.2.2.2.1
  have hts := B.1.2.2.2.2
  have hl : lv_has ls 4 [(0, .ref (E.2.1 + 0)), (1, .int a1)] := hl
  have b27_0 : ∀ (ls : Array Slot) (H : Heap) (locs : List Loc) (d27 : Nat) (x27_2 : Int32) (j27_3 : Nat), lv_has ls 4 [(0, .ref (E.2.1 + 0)), (1, .int a1), (2, .int x27_2), (3, .int (nI j27_3))] → WP E ρ H → va_S (hA E) s.heap H locs → 513 - j27_3 < d27 → iR x27_2 (-2147483648) (2147483647) → 0 ≤ j27_3 → j27_3 ≤ 512 → iR a1 (1) (512) → W p l e (rmk 6 240) s m ([.ref (E.2.1 + 0), .int a1] : List Value).toArray below meth c H locs 0 0 (MQ below (cI E (fun v ρ1 => ρ = ρ1 ∧ CI r S0 ρ1)) ([.ref (E.2.1 + 0), .int a1] : List Value).toArray s 0 0 (hA E)) (F0 m 27 ls []) := by
    intro ls H locs d27
    induction d27 generalizing ls H locs with
    | zero => intro x27_2 j27_3 hl hP hS hd27 hx27_2 lj27_3 uj27_3 fa1; exact absurd hd27 (Nat.not_lt_zero _)
    | succ d27 ih27 =>
      intro x27_2 j27_3 hl hP hS hd27 hx27_2 lj27_3 uj27_3 fa1
      have b54_0 : ∀ (ls : Array Slot) (H : Heap) (locs : List Loc) (x54_2 : Int32), lv_has ls 4 [(0, .ref (E.2.1 + 0)), (1, .int a1), (2, .int x54_2), (3, .int (nI j27_3))] → WP E ρ H → va_S (hA E) s.heap H locs → iR x54_2 (-2147483648) (2147483647) → iR a1 (1) (512) → 0 ≤ j27_3 → j27_3 ≤ 511 → W p l e (rmk 6 240) s m ([.ref (E.2.1 + 0), .int a1] : List Value).toArray below meth c H locs 0 0 (MQ below (cI E (fun v ρ1 => ρ = ρ1 ∧ CI r S0 ρ1)) ([.ref (E.2.1 + 0), .int a1] : List Value).toArray s 0 0 (hA E)) (F0 m 54 ls []) := by
        intro ls H locs x54_2 hl hP hS hx54_2 fa1 tlj27_3 tuj27_3
        refine lv_iinc (v := (nI (1 + j27_3))) (lv' := [(3, .int (nI (1 + j27_3))), (0, .ref (E.2.1 + 0)), (1, .int a1), (2, .int x54_2)]) hx hb dX6_clashes_54 hl (k := 3) rfl (show nI j27_3 + nI 1 = _ from (nI_add _ _).trans (congrArg nI (by omega))) (by decide) rfl (fun ls hl => ?_)
        refine lv_goto (tgt := 27) hx hb dX6_clashes_57 (by decide) ?_
        exact ih27 ls _ _ (x54_2 : Int32) (1 + j27_3) (lv_sub hl [1, 2, 3, 0] rfl) hP hS (by omega) (iR_w hx54_2 (by decide) (by decide)) (by omega) (by omega) (iR_w fa1 (by decide) (by decide))
      refine lv_iload_n hx hb dX6_clashes_27 rfl (lv_at hl 3 rfl) ?_
      refine lv_iload_n hx hb dX6_clashes_28 rfl (lv_at hl 1 rfl) ?_
      obtain ⟨j251, lj251, uj251, ej251⟩ := iR_nat (a := 1) (b := 512) fa1
      refine lv_topi (fun z252 ez252 => ?_)
      obtain rfl : z252 = nI j251 := ez252.trans ej251
      refine lv_icmp_ge (tgt := 60) hx hb dX6_clashes_29 (by decide) (fun c253 => ?_) (fun c253 => ?_)
      · skip
        have n254 := mt (nx_lt (a := j27_3) (b := j251) (by omega) (by omega)).mpr (show ¬ (nI j27_3 < nI j251) from (Int32.not_lt.mpr c253))
        refine lv_iload_n hx hb dX6_clashes_60 rfl (lv_at hl 2 rfl) ?_
        exact ret_i B hr hlk hP hS dX6_clashes_61 (⟨rfl, hI⟩)
      · skip
        have n255 := (nx_lt (a := j27_3) (b := j251) (by omega) (by omega)).mp (show (nI j27_3 < nI j251) from (Int32.not_le.mp c253))
        refine lv_aload_n hx hb dX6_clashes_32 rfl (lv_at hl 0 rfl) ?_
        refine get6 B hP (show hk 0 = 6 by decide +kernel) 0 (by decide) mw_412 rfl dX6_clashes_33 ?_
        refine lv_aload_n hx hb dX6_clashes_36 rfl (lv_at hl 0 rfl) ?_
        refine get6 B hP (show hk 0 = 6 by decide +kernel) 0 (by decide) mw_412 rfl dX6_clashes_37 ?_
        refine get5 B hP (show hk 1 = 5 by decide +kernel) 5 (by decide) mw_382 rfl dX6_clashes_40 ?_
        refine lv_iload_n hx hb dX6_clashes_43 rfl (lv_at hl 3 rfl) ?_
        refine lv_iadd hx hb dX6_clashes_44 ?_
        refine call_i (cVt (k := 1) (av := [.int ((ρ 1 5) + (nI j27_3))]) (rest := []) B hP hS (d_X5_mastersMeet l E ρ r S0 hS0 1 (show hk 1 = 5 by decide +kernel) ((ρ 1 5) + (nI j27_3)) hI) lk_RX6_262 (hrecv (ci := 5) B hP (hk_lt (c := 5) (show hk 1 = 5 by decide +kernel) (by decide)) (hcc5 _ _ (show hk 1 = 5 by decide +kernel)) rfl) rfl rfl hl.1 (Nat.le_of_ble_eq_true rfl) ⟨Nat.le_of_ble_eq_true rfl, Nat.le_of_ble_eq_true rfl⟩ ⟨Nat.le_of_ble_eq_true rfl, Nat.le_of_ble_eq_true rfl⟩ dX6_clashes_45) hS (fun r256 ρ257 H locs q258 hP hS => ?_)
        obtain ⟨rfl, hI, i259⟩ := q258
        obtain ⟨j260, lj260, uj260, ej260⟩ := iR_nat (a := 0) (b := 1) i259
        refine lv_topi (fun z261 ez261 => ?_)
        obtain rfl : z261 = nI j260 := ez261.trans ej260
        refine lv_if_eq (tgt := 54) hx hb dX6_clashes_48 (by decide) (fun c262 => ?_) (fun c262 => ?_)
        · skip
          have n263 := (nI_eq (a := j260) (b := 0) (by omega) (by omega)).mp (show (nI j260 = nI 0) from c262)
          exact b54_0 ls _ _ (x27_2 : Int32) (lv_sub hl [0, 1, 2, 3] rfl) hP hS (iR_w hx27_2 (by decide) (by decide)) (iR_w fa1 (by decide) (by decide)) (by omega) (by omega)
        · skip
          have n264 := mt (nI_eq (a := j260) (b := 0) (by omega) (by omega)).mpr (show ¬ (nI j260 = nI 0) from c262)
          refine lv_iinc (v := (x27_2 + 1)) (lv' := [(2, .int (x27_2 + 1)), (0, .ref (E.2.1 + 0)), (1, .int a1), (3, .int (nI j27_3))]) hx hb dX6_clashes_51 hl (k := 2) rfl rfl (by decide) rfl (fun ls hl => ?_)
          exact b54_0 ls _ _ ((x27_2 + 1) : Int32) (lv_sub hl [1, 2, 0, 3] rfl) hP hS (iR_w (iR_any (x27_2 + 1)) (by decide) (by decide)) (iR_w fa1 (by decide) (by decide)) (by omega) (by omega)
  refine lv_aload_n hx hb dX6_clashes_0 rfl (lv_at hl 0 rfl) ?_
  refine get6 B hP (show hk 0 = 6 by decide +kernel) 0 (by decide) mw_412 rfl dX6_clashes_1 ?_
  refine call_i (cVt (k := 1) (av := []) (rest := []) B hP hS (d_X5_hasBothNets l E ρ r S0 hS0 1 (show hk 1 = 5 by decide +kernel) hI) lk_RX6_259 (hrecv (ci := 5) B hP (hk_lt (c := 5) (show hk 1 = 5 by decide +kernel) (by decide)) (hcc5 _ _ (show hk 1 = 5 by decide +kernel)) rfl) rfl rfl hl.1 (Nat.le_of_ble_eq_true rfl) ⟨Nat.le_of_ble_eq_true rfl, Nat.le_of_ble_eq_true rfl⟩ ⟨Nat.le_of_ble_eq_true rfl, Nat.le_of_ble_eq_true rfl⟩ dX6_clashes_4) hS (fun r265 ρ266 H locs q267 hP hS => ?_)
  obtain ⟨rfl, hI, i268⟩ := q267
  obtain ⟨j269, lj269, uj269, ej269⟩ := iR_nat (a := 0) (b := 1) i268
  refine lv_topi (fun z270 ez270 => ?_)
  obtain rfl : z270 = nI j269 := ez270.trans ej269
  refine lv_if_eq (tgt := 21) hx hb dX6_clashes_7 (by decide) (fun c271 => ?_) (fun c271 => ?_)
  · skip
    have n272 := (nI_eq (a := j269) (b := 0) (by omega) (by omega)).mp (show (nI j269 = nI 0) from c271)
    refine lv_iconst (v := (-1)) hx hb dX6_clashes_21 (by decide) ?_
    exact ret_i B hr hlk hP hS dX6_clashes_22 (⟨rfl, hI⟩)
  · skip
    have n273 := mt (nI_eq (a := j269) (b := 0) (by omega) (by omega)).mpr (show ¬ (nI j269 = nI 0) from c271)
    refine lv_iload_n hx hb dX6_clashes_10 rfl (lv_at hl 1 rfl) ?_
    refine lv_iconst (v := 1) hx hb dX6_clashes_11 (by decide) ?_
    refine lv_sipush (v := 512) hx hb dX6_clashes_12 (by decide) ?_
    refine call_i (cS (av := [.int a1, .int 1, .int 512]) (rest := []) B hP hS (c_isWithin l E ρ a1 1 512 1 512 (by decide) (by decide)) lk_RX6_54 rfl rfl hl.1 (Nat.le_of_ble_eq_true rfl) ⟨Nat.le_of_ble_eq_true rfl, Nat.le_of_ble_eq_true rfl⟩ ⟨Nat.le_of_ble_eq_true rfl, Nat.le_of_ble_eq_true rfl⟩ dX6_clashes_15) hS (fun r274 ρ275 H locs q276 hP hS => ?_)
    obtain ⟨rfl, q276⟩ := q276
    rcases q276 with ⟨rfl, q276⟩ | ⟨rfl, q276⟩
    · skip
      refine lv_if_ne (tgt := 23) hx hb dX6_clashes_18 (by decide) (fun _ => ?_) (fun c277 => absurd c277 (iR_ne (show iR 1 (1) (1) from ⟨by decide, by decide⟩) (show iR 0 (0) (0) from ⟨by decide, by decide⟩) (by decide)))
      refine lv_iconst (v := 0) hx hb dX6_clashes_23 (by decide) ?_
      refine lv_istore_n (lv' := [(2, .int 0), (0, .ref (E.2.1 + 0)), (1, .int a1)]) hx hb dX6_clashes_24 rfl hl (by decide) rfl (fun ls hl => ?_)
      refine lv_iconst (v := 0) hx hb dX6_clashes_25 (by decide) ?_
      refine lv_istore_n (lv' := [(3, .int 0), (2, .int 0), (0, .ref (E.2.1 + 0)), (1, .int a1)]) hx hb dX6_clashes_26 rfl hl (by decide) rfl (fun ls hl => ?_)
      exact b27_0 ls _ _ _ (0 : Int32) 0 (lv_sub hl [2, 3, 1, 0] rfl) hP hS (Nat.lt_succ_self _) (iR_w (show iR 0 (0) (0) from ⟨by decide, by decide⟩) (by decide) (by decide)) (by omega) (by omega) (iR_w q276 (by decide) (by decide))
    · skip
      refine lv_if_ne (tgt := 23) hx hb dX6_clashes_18 (by decide) (fun c278 => absurd rfl c278) (fun _ => ?_)
      refine lv_iconst (v := (-1)) hx hb dX6_clashes_21 (by decide) ?_
      exact ret_i B hr hlk hP hS dX6_clashes_22 (⟨rfl, hI⟩)

theorem lk_RX6_332 : LkV RX6 332 RX6 yX6_noteHops cX6_noteHops 4 none 1 := ⟨⟨mw_940, mw_942, mw_6, mw_52, mw_943⟩, by decide +kernel⟩
theorem lk_RX6_335 : LkV RX6 335 RX6 yX6_clashesAt cX6_clashesAt 5 (some .int) 2 := ⟨⟨mw_946, mw_948, mw_7, mw_52, mw_949⟩, by decide +kernel⟩
set_option maxHeartbeats 4000000 in
set_option maxRecDepth 100000 in
theorem d_X6_bestOffset (l : Launch) (E : hE) (ρ r : Nat → Nat → Int32) (a1 : Int32) (hI : CI r S0 ρ) : Met l yX6_bestOffset (.code yX6_bestOffset cX6_bestOffset 6 (some .int) :: gw_all) (rmk 6 240) (cPre E ρ [.ref (E.2.1 + 0), .int a1]) (cI E (fun v ρ1 => CI r S0 ρ1)) 0 0 (hA E) := by
  refine ent (own := RX6) (by decide) rfl (Nat.le_of_ble_eq_true rfl) ?_
  intro p e s m below meth c ls B hr hlk hl hP hS
  have hx := B.1.1
  have hb := B.1.2.1
  have hown := B.1.2.2.2.1
  have hts := B.1.2.2.2.2
  have hl : lv_has ls 6 [(0, .ref (E.2.1 + 0)), (1, .int a1)] := hl
  have b40_0 : ∀ (ls : Array Slot) (ρ : Nat → Nat → Int32) (H : Heap) (locs : List Loc) (d40 : Nat) (j40_2 : Nat) (x40_3 : Int32) (j40_4 : Nat), lv_has ls 6 [(0, .ref (E.2.1 + 0)), (1, .int a1), (2, .int (nI j40_2)), (3, .int x40_3), (4, .int (nI j40_4))] → WP E ρ H → va_S (hA E) s.heap H locs → CI r S0 ρ → 65 - j40_4 < d40 → 0 ≤ j40_2 → j40_2 ≤ 64 → iR x40_3 (-2147483648) (2147483647) → 1 ≤ j40_4 → j40_4 ≤ 64 → iR a1 (1) (512) → W p l e (rmk 6 240) s m ([.ref (E.2.1 + 0), .int a1] : List Value).toArray below meth c H locs 0 0 (MQ below (cI E (fun v ρ1 => CI r S0 ρ1)) ([.ref (E.2.1 + 0), .int a1] : List Value).toArray s 0 0 (hA E)) (F0 m 40 ls []) := by
    intro ls ρ H locs d40
    induction d40 generalizing ls ρ H locs with
    | zero => intro j40_2 x40_3 j40_4 hl hP hS hI hd40 lj40_2 uj40_2 hx40_3 lj40_4 uj40_4 fa1; exact absurd hd40 (Nat.not_lt_zero _)
    | succ d40 ih40 =>
      intro j40_2 x40_3 j40_4 hl hP hS hI hd40 lj40_2 uj40_2 hx40_3 lj40_4 uj40_4 fa1
      have b68_0 : ∀ (ls : Array Slot) (ρ : Nat → Nat → Int32) (H : Heap) (locs : List Loc) (j68_2 : Nat) (x68_3 : Int32), lv_has ls 6 [(0, .ref (E.2.1 + 0)), (1, .int a1), (2, .int (nI j68_2)), (3, .int x68_3), (4, .int (nI j40_4))] → WP E ρ H → va_S (hA E) s.heap H locs → CI r S0 ρ → 0 ≤ j68_2 → j68_2 ≤ 64 → iR x68_3 (-2147483648) (2147483647) → iR a1 (1) (512) → 0 ≤ j40_2 → j40_2 ≤ 64 → 1 ≤ j40_4 → j40_4 ≤ 63 → W p l e (rmk 6 240) s m ([.ref (E.2.1 + 0), .int a1] : List Value).toArray below meth c H locs 0 0 (MQ below (cI E (fun v ρ1 => CI r S0 ρ1)) ([.ref (E.2.1 + 0), .int a1] : List Value).toArray s 0 0 (hA E)) (F0 m 68 ls []) := by
        intro ls ρ H locs j68_2 x68_3 hl hP hS hI lj68_2 uj68_2 hx68_3 fa1 tlj40_2 tuj40_2 tlj40_4 tuj40_4
        refine lv_iinc (v := (nI (1 + j40_4))) (lv' := [(4, .int (nI (1 + j40_4))), (0, .ref (E.2.1 + 0)), (1, .int a1), (2, .int (nI j68_2)), (3, .int x68_3)]) hx hb dX6_bestOffset_68 hl (k := 4) rfl (show nI j40_4 + nI 1 = _ from (nI_add _ _).trans (congrArg nI (by omega))) (by decide) rfl (fun ls hl => ?_)
        refine lv_goto (tgt := 40) hx hb dX6_bestOffset_71 (by decide) ?_
        exact ih40 ls ρ _ _ j68_2 (x68_3 : Int32) (1 + j40_4) (lv_sub hl [1, 2, 3, 4, 0] rfl) hP hS hI (by omega) (by omega) (by omega) (iR_w hx68_3 (by decide) (by decide)) (by omega) (by omega) (iR_w fa1 (by decide) (by decide))
      refine lv_iload hx hb dX6_bestOffset_40 (lv_at hl 4 rfl) ?_
      refine lv_bipush (v := 64) hx hb dX6_bestOffset_42 (by decide) ?_
      refine lv_icmp_ge (tgt := 74) hx hb dX6_bestOffset_44 (by decide) (fun c110 => ?_) (fun c110 => ?_)
      · skip
        have n111 := mt (nx_lt (a := j40_4) (b := 64) (by omega) (by omega)).mpr (show ¬ (nI j40_4 < nI 64) from (Int32.not_lt.mpr c110))
        refine lv_iload_n hx hb dX6_bestOffset_74 rfl (lv_at hl 2 rfl) ?_
        exact ret_i B hr hlk hP hS dX6_bestOffset_75 (hI)
      · skip
        have n112 := (nx_lt (a := j40_4) (b := 64) (by omega) (by omega)).mp (show (nI j40_4 < nI 64) from (Int32.not_le.mp c110))
        refine lv_aload_n hx hb dX6_bestOffset_47 rfl (lv_at hl 0 rfl) ?_
        refine lv_iload hx hb dX6_bestOffset_48 (lv_at hl 4 rfl) ?_
        refine lv_iload_n hx hb dX6_bestOffset_50 rfl (lv_at hl 1 rfl) ?_
        obtain ⟨j113, lj113, uj113, ej113⟩ := iR_nat (a := 1) (b := 512) fa1
        refine lv_topi (fun z114 ez114 => ?_)
        obtain rfl : z114 = nI j113 := ez114.trans ej113
        refine call_i (cVt (k := 0) (av := [.int (nI j40_4), .int (nI j113)]) (rest := []) B hP hS (d_X6_clashesAt l E ρ r j40_4 (by omega) (by omega) j113 (by omega) (by omega) hI) lk_RX6_335 (hrecv (ci := 6) B hP (hk_lt (c := 6) (show hk 0 = 6 by decide +kernel) (by decide)) (hcc6 _ _ (show hk 0 = 6 by decide +kernel)) rfl) rfl rfl hl.1 (Nat.le_of_ble_eq_true rfl) ⟨Nat.le_of_ble_eq_true rfl, Nat.le_of_ble_eq_true rfl⟩ ⟨Nat.le_of_ble_eq_true rfl, Nat.le_of_ble_eq_true rfl⟩ dX6_bestOffset_51) hS (fun r115 ρ116 H locs q117 hP hS => ?_)
        obtain ⟨rfl, hI⟩ := q117
        refine lv_istore (lv' := [(5, .int r115), (0, .ref (E.2.1 + 0)), (1, .int a1), (2, .int (nI j40_2)), (3, .int x40_3), (4, .int (nI j40_4))]) hx hb dX6_bestOffset_54 hl (by decide) rfl (fun ls hl => ?_)
        refine lv_iload hx hb dX6_bestOffset_56 (lv_at hl 0 rfl) ?_
        refine lv_iload_n hx hb dX6_bestOffset_58 rfl (lv_at hl 4 rfl) ?_
        refine lv_icmp_ge (tgt := 68) hx hb dX6_bestOffset_59 (by decide) (fun c119 => ?_) (fun c119 => ?_)
        · skip
          exact b68_0 ls ρ _ _ j40_2 (x40_3 : Int32) (lv_sub hl [1, 2, 3, 4, 5] rfl) hP hS hI (by omega) (by omega) (iR_w hx40_3 (by decide) (by decide)) (iR_w fa1 (by decide) (by decide)) (by omega) (by omega) (by omega) (by omega)
        · skip
          refine lv_iload hx hb dX6_bestOffset_62 (lv_at hl 0 rfl) ?_
          refine lv_istore_n (lv' := [(3, .int r115), (5, .int r115), (0, .ref (E.2.1 + 0)), (1, .int a1), (2, .int (nI j40_2)), (4, .int (nI j40_4))]) hx hb dX6_bestOffset_64 rfl hl (by decide) rfl (fun ls hl => ?_)
          refine lv_iload hx hb dX6_bestOffset_65 (lv_at hl 5 rfl) ?_
          refine lv_istore_n (lv' := [(2, .int (nI j40_4)), (3, .int r115), (5, .int r115), (0, .ref (E.2.1 + 0)), (1, .int a1), (4, .int (nI j40_4))]) hx hb dX6_bestOffset_67 rfl hl (by decide) rfl (fun ls hl => ?_)
          exact b68_0 ls ρ _ _ j40_4 (r115 : Int32) (lv_sub hl [3, 4, 0, 1, 5] rfl) hP hS hI (by omega) (by omega) (iR_w (iR_any r115) (by decide) (by decide)) (iR_w fa1 (by decide) (by decide)) (by omega) (by omega) (by omega) (by omega)
  refine lv_aload_n hx hb dX6_bestOffset_0 rfl (lv_at hl 0 rfl) ?_
  refine get6 B hP (show hk 0 = 6 by decide +kernel) 0 (by decide) mw_412 rfl dX6_bestOffset_1 ?_
  refine call_i (cVt (k := 1) (av := []) (rest := []) B hP hS (d_X5_hasBothNets l E ρ r S0 hS0 1 (show hk 1 = 5 by decide +kernel) hI) lk_RX6_259 (hrecv (ci := 5) B hP (hk_lt (c := 5) (show hk 1 = 5 by decide +kernel) (by decide)) (hcc5 _ _ (show hk 1 = 5 by decide +kernel)) rfl) rfl rfl hl.1 (Nat.le_of_ble_eq_true rfl) ⟨Nat.le_of_ble_eq_true rfl, Nat.le_of_ble_eq_true rfl⟩ ⟨Nat.le_of_ble_eq_true rfl, Nat.le_of_ble_eq_true rfl⟩ dX6_bestOffset_4) hS (fun r120 ρ121 H locs q122 hP hS => ?_)
  obtain ⟨rfl, hI, i123⟩ := q122
  obtain ⟨j124, lj124, uj124, ej124⟩ := iR_nat (a := 0) (b := 1) i123
  refine lv_topi (fun z125 ez125 => ?_)
  obtain rfl : z125 = nI j124 := ez125.trans ej124
  refine lv_if_eq (tgt := 21) hx hb dX6_bestOffset_7 (by decide) (fun c126 => ?_) (fun c126 => ?_)
  · skip
    have n127 := (nI_eq (a := j124) (b := 0) (by omega) (by omega)).mp (show (nI j124 = nI 0) from c126)
    refine lv_iconst (v := (-1)) hx hb dX6_bestOffset_21 (by decide) ?_
    exact ret_i B hr hlk hP hS dX6_bestOffset_22 (hI)
  · skip
    have n128 := mt (nI_eq (a := j124) (b := 0) (by omega) (by omega)).mpr (show ¬ (nI j124 = nI 0) from c126)
    refine lv_iload_n hx hb dX6_bestOffset_10 rfl (lv_at hl 1 rfl) ?_
    refine lv_iconst (v := 1) hx hb dX6_bestOffset_11 (by decide) ?_
    refine lv_sipush (v := 512) hx hb dX6_bestOffset_12 (by decide) ?_
    refine call_i (cS (av := [.int a1, .int 1, .int 512]) (rest := []) B hP hS (c_isWithin l E ρ a1 1 512 1 512 (by decide) (by decide)) lk_RX6_54 rfl rfl hl.1 (Nat.le_of_ble_eq_true rfl) ⟨Nat.le_of_ble_eq_true rfl, Nat.le_of_ble_eq_true rfl⟩ ⟨Nat.le_of_ble_eq_true rfl, Nat.le_of_ble_eq_true rfl⟩ dX6_bestOffset_15) hS (fun r129 ρ130 H locs q131 hP hS => ?_)
    obtain ⟨rfl, q131⟩ := q131
    rcases q131 with ⟨rfl, q131⟩ | ⟨rfl, q131⟩
    · skip
      refine lv_if_ne (tgt := 23) hx hb dX6_bestOffset_18 (by decide) (fun _ => ?_) (fun c132 => absurd c132 (iR_ne (show iR 1 (1) (1) from ⟨by decide, by decide⟩) (show iR 0 (0) (0) from ⟨by decide, by decide⟩) (by decide)))
      refine lv_aload_n hx hb dX6_bestOffset_23 rfl (lv_at hl 0 rfl) ?_
      refine lv_iload_n hx hb dX6_bestOffset_24 rfl (lv_at hl 1 rfl) ?_
      obtain ⟨j133, lj133, uj133, ej133⟩ := iR_nat (a := 1) (b := 512) q131
      refine lv_topi (fun z134 ez134 => ?_)
      obtain rfl : z134 = nI j133 := ez134.trans ej133
      refine call_v (cVt (k := 0) (av := [.int (nI j133)]) (rest := []) B hP hS (d_X6_noteHops l E ρ r j133 (by omega) (by omega) hI) lk_RX6_332 (hrecv (ci := 6) B hP (hk_lt (c := 6) (show hk 0 = 6 by decide +kernel) (by decide)) (hcc6 _ _ (show hk 0 = 6 by decide +kernel)) rfl) rfl rfl hl.1 (Nat.le_of_ble_eq_true rfl) ⟨Nat.le_of_ble_eq_true rfl, Nat.le_of_ble_eq_true rfl⟩ ⟨Nat.le_of_ble_eq_true rfl, Nat.le_of_ble_eq_true rfl⟩ dX6_bestOffset_25) hS (fun ρ136 H locs q137 hP hS => ?_)
      have hI := q137
      refine lv_iconst (v := 0) hx hb dX6_bestOffset_28 (by decide) ?_
      refine lv_istore_n (lv' := [(2, .int 0), (0, .ref (E.2.1 + 0)), (1, .int a1)]) hx hb dX6_bestOffset_29 rfl hl (by decide) rfl (fun ls hl => ?_)
      refine lv_aload_n hx hb dX6_bestOffset_30 rfl (lv_at hl 1 rfl) ?_
      refine lv_iconst (v := 0) hx hb dX6_bestOffset_31 (by decide) ?_
      refine lv_iload_n hx hb dX6_bestOffset_32 rfl (lv_at hl 2 rfl) ?_
      refine lv_topi (fun z139 ez139 => ?_)
      obtain rfl : z139 = nI j133 := ez139.trans ej133
      refine call_i (cVt (k := 0) (av := [.int 0, .int (nI j133)]) (rest := []) B hP hS (d_X6_clashesAt l E ρ136 r 0 (by omega) (by omega) j133 (by omega) (by omega) hI) lk_RX6_335 (hrecv (ci := 6) B hP (hk_lt (c := 6) (show hk 0 = 6 by decide +kernel) (by decide)) (hcc6 _ _ (show hk 0 = 6 by decide +kernel)) rfl) rfl rfl hl.1 (Nat.le_of_ble_eq_true rfl) ⟨Nat.le_of_ble_eq_true rfl, Nat.le_of_ble_eq_true rfl⟩ ⟨Nat.le_of_ble_eq_true rfl, Nat.le_of_ble_eq_true rfl⟩ dX6_bestOffset_33) hS (fun r140 ρ141 H locs q142 hP hS => ?_)
      obtain ⟨rfl, hI⟩ := q142
      refine lv_istore_n (lv' := [(3, .int r140), (2, .int 0), (0, .ref (E.2.1 + 0)), (1, .int a1)]) hx hb dX6_bestOffset_36 rfl hl (by decide) rfl (fun ls hl => ?_)
      refine lv_iconst (v := 1) hx hb dX6_bestOffset_37 (by decide) ?_
      refine lv_istore (lv' := [(4, .int 1), (3, .int r140), (2, .int 0), (0, .ref (E.2.1 + 0)), (1, .int a1)]) hx hb dX6_bestOffset_38 hl (by decide) rfl (fun ls hl => ?_)
      exact b40_0 ls ρ136 _ _ _ 0 (r140 : Int32) 1 (lv_sub hl [3, 4, 2, 1, 0] rfl) hP hS hI (Nat.lt_succ_self _) (by omega) (by omega) (iR_w (iR_any r140) (by decide) (by decide)) (by omega) (by omega) (iR_w q131 (by decide) (by decide))
    · skip
      refine lv_if_ne (tgt := 23) hx hb dX6_bestOffset_18 (by decide) (fun c144 => absurd rfl c144) (fun _ => ?_)
      refine lv_iconst (v := (-1)) hx hb dX6_bestOffset_21 (by decide) ?_
      exact ret_i B hr hlk hP hS dX6_bestOffset_22 (hI)

theorem lk_RX6_339 : LkV RX6 339 RX5 yX5_goOneTurn cX5_goOneTurn 2 none 0 := ⟨⟨mw_954, mw_659, mw_660, mw_53, mw_661⟩, by decide +kernel⟩
set_option maxHeartbeats 4000000 in
set_option maxRecDepth 100000 in
theorem d_X6_drain (l : Launch) (E : hE) (ρ r : Nat → Nat → Int32) (a1 : Int32) (a2 : Int32) (hI : CI r S0 ρ) : Met l yX6_drain (.code yX6_drain cX6_drain 5 (some .int) :: gw_all) (rmk 6 240) (cPre E ρ [.ref (E.2.1 + 0), .int a1, .int a2]) (cI E (fun v ρ1 => CI r S0 ρ1)) 0 0 (hA E) := by
  refine ent (own := RX6) (by decide) rfl (Nat.le_of_ble_eq_true rfl) ?_
  intro p e s m below meth c ls B hr hlk hl hP hS
  have hx := B.1.1
  have hb := B.1.2.1
  have hown := B.1.2.2.2.1
  have hts := B.1.2.2.2.2
  have hl : lv_has ls 5 [(0, .ref (E.2.1 + 0)), (1, .int a1), (2, .int a2)] := hl
  have b38_0 : ∀ (ls : Array Slot) (ρ : Nat → Nat → Int32) (H : Heap) (locs : List Loc) , lv_has ls 5 [(0, .ref (E.2.1 + 0)), (3, .null), (4, .int 0)] → WP E ρ H → va_S (hA E) s.heap H locs → CI r S0 ρ → iR a1 (0) (1) → W p l e (rmk 6 240) s m ([.ref (E.2.1 + 0), .int a1, .int a2] : List Value).toArray below meth c H locs 0 0 (MQ below (cI E (fun v ρ1 => CI r S0 ρ1)) ([.ref (E.2.1 + 0), .int a1, .int a2] : List Value).toArray s 0 0 (hA E)) (F0 m 38 ls []) := by
    intro ls ρ H locs  hl hP hS hI fa1
    refine lv_iload hx hb dX6_drain_38 (lv_at hl 2 rfl) ?_
    refine lv_sipush (v := 400) hx hb dX6_drain_40 (by decide) ?_
    refine lv_icmp_gt (tgt := 111) hx hb dX6_drain_43 (by decide) (fun c229 => absurd c229 (iR_nlt (show iR 400 (400) (400) from ⟨by decide, by decide⟩) (show iR 0 (0) (0) from ⟨by decide, by decide⟩) (by decide))) (fun _ => ?_)
    refine lv_aload_nN hx hb dX6_drain_46 rfl (lv_at hl 1 rfl) ?_
    refine lv_ifnullN (tgt := 111) hx hb dX6_drain_47 (by decide) ?_
    refine lv_iconst (v := (-1)) hx hb dX6_drain_111 (by decide) ?_
    exact ret_i B hr hlk hP hS dX6_drain_112 (hI)
  have b38_1 : ∀ (ls : Array Slot) (ρ : Nat → Nat → Int32) (H : Heap) (locs : List Loc) (d38 : Nat) (k38_3 : Nat) (j38_4 : Nat), lv_has ls 5 [(0, .ref (E.2.1 + 0)), (3, .ref (E.2.1 + k38_3)), (4, .int (nI j38_4))] → WP E ρ H → va_S (hA E) s.heap H locs → CI r S0 ρ → 401 - j38_4 < d38 → hk k38_3 = 1 → 0 ≤ j38_4 → j38_4 ≤ 400 → iR a1 (0) (1) → W p l e (rmk 6 240) s m ([.ref (E.2.1 + 0), .int a1, .int a2] : List Value).toArray below meth c H locs 0 0 (MQ below (cI E (fun v ρ1 => CI r S0 ρ1)) ([.ref (E.2.1 + 0), .int a1, .int a2] : List Value).toArray s 0 0 (hA E)) (F0 m 38 ls []) := by
    intro ls ρ H locs d38
    induction d38 generalizing ls ρ H locs with
    | zero => intro k38_3 j38_4 hl hP hS hI hd38 hk38_3 lj38_4 uj38_4 fa1; exact absurd hd38 (Nat.not_lt_zero _)
    | succ d38 ih38 =>
      intro k38_3 j38_4 hl hP hS hI hd38 hk38_3 lj38_4 uj38_4 fa1
      have b73_0 : ∀ (ls : Array Slot) (ρ : Nat → Nat → Int32) (H : Heap) (locs : List Loc) , lv_has ls 5 [(0, .ref (E.2.1 + 0)), (3, .ref (E.2.1 + k38_3)), (4, .int (nI j38_4))] → WP E ρ H → va_S (hA E) s.heap H locs → CI r S0 ρ → iR a1 (0) (1) → 0 ≤ j38_4 → j38_4 ≤ 400 → W p l e (rmk 6 240) s m ([.ref (E.2.1 + 0), .int a1, .int a2] : List Value).toArray below meth c H locs 0 0 (MQ below (cI E (fun v ρ1 => CI r S0 ρ1)) ([.ref (E.2.1 + 0), .int a1, .int a2] : List Value).toArray s 0 0 (hA E)) (F0 m 73 ls []) := by
        intro ls ρ H locs  hl hP hS hI fa1 tlj38_4 tuj38_4
        refine lv_iload hx hb dX6_drain_73 (lv_at hl 2 rfl) ?_
        refine lv_sipush (v := 400) hx hb dX6_drain_75 (by decide) ?_
        refine lv_icmp_eq (tgt := 96) hx hb dX6_drain_78 (by decide) (fun c230 => ?_) (fun c230 => ?_)
        · skip
          have n231 := (nI_eq (a := j38_4) (b := 400) (by omega) (by omega)).mp (show (nI j38_4 = nI 400) from c230)
          refine lv_iconst (v := (-1)) hx hb dX6_drain_96 (by decide) ?_
          exact ret_i B hr hlk hP hS dX6_drain_97 (hI)
        · skip
          have n232 := mt (nI_eq (a := j38_4) (b := 400) (by omega) (by omega)).mpr (show ¬ (nI j38_4 = nI 400) from c230)
          refine lv_aload_n hx hb dX6_drain_81 rfl (lv_at hl 0 rfl) ?_
          refine get6 B hP (show hk 0 = 6 by decide +kernel) 1 (by decide) mw_413 rfl dX6_drain_82 ?_
          refine get5 B hP (show hk 90 = 5 by decide +kernel) 5 (by decide) mw_382 rfl dX6_drain_85 ?_
          refine lv_iconst (v := 2) hx hb dX6_drain_88 (by decide) ?_
          refine lv_iadd hx hb dX6_drain_89 ?_
          refine lv_ldcw (v := 99998) hx hb hown (hts _ mw_653) dX6_drain_90 ?_
          refine lv_icmp_le (tgt := 98) hx hb dX6_drain_93 (by decide) (fun c233 => ?_) (fun c233 => ?_)
          · skip
            have i234 : iR ((ρ 90 5) + 2) (-2147483648) (99998) := (iR_geR (show iR 99998 (99998) (99998) from ⟨by decide, by decide⟩) (iR_any ((ρ 90 5) + 2)) (Int32.not_lt.mpr c233) (by decide))
            refine lv_aload_n hx hb dX6_drain_98 rfl (lv_at hl 0 rfl) ?_
            refine get6 B hP (show hk 0 = 6 by decide +kernel) 1 (by decide) mw_413 rfl dX6_drain_99 ?_
            refine call_v (cVt (k := 90) (av := []) (rest := []) B hP hS (d_X5_goOneTurn l E ρ r 90 (show hk 90 = 5 by decide +kernel) hI) lk_RX6_339 (hrecv (ci := 5) B hP (hk_lt (c := 5) (show hk 90 = 5 by decide +kernel) (by decide)) (hcc5 _ _ (show hk 90 = 5 by decide +kernel)) rfl) rfl rfl hl.1 (Nat.le_of_ble_eq_true rfl) ⟨Nat.le_of_ble_eq_true rfl, Nat.le_of_ble_eq_true rfl⟩ ⟨Nat.le_of_ble_eq_true rfl, Nat.le_of_ble_eq_true rfl⟩ dX6_drain_102) hS (fun ρ236 H locs q237 hP hS => ?_)
            have hI := q237
            refine lv_iinc (v := (nI (1 + j38_4))) (lv' := [(4, .int (nI (1 + j38_4))), (0, .ref (E.2.1 + 0)), (3, .ref (E.2.1 + k38_3))]) hx hb dX6_drain_105 hl (k := 2) rfl (show nI j38_4 + nI 1 = _ from (nI_add _ _).trans (congrArg nI (by omega))) (by decide) rfl (fun ls hl => ?_)
            refine lv_goto (tgt := 38) hx hb dX6_drain_108 (by decide) ?_
            exact ih38 ls ρ236 _ _ k38_3 (1 + j38_4) (lv_sub hl [1, 2, 0] rfl) hP hS hI (by omega) hk38_3 (by omega) (by omega) (iR_w fa1 (by decide) (by decide))
          · skip
            have i239 : iR ((ρ 90 5) + 2) (99999) (2147483647) := (iR_ltR (show iR 99998 (99998) (99998) from ⟨by decide, by decide⟩) (iR_any ((ρ 90 5) + 2)) (Int32.not_le.mp c233) (by decide))
            refine lv_iconst (v := (-1)) hx hb dX6_drain_96 (by decide) ?_
            exact ret_i B hr hlk hP hS dX6_drain_97 (hI)
      refine lv_iload hx hb dX6_drain_38 (lv_at hl 2 rfl) ?_
      refine lv_sipush (v := 400) hx hb dX6_drain_40 (by decide) ?_
      refine lv_icmp_gt (tgt := 111) hx hb dX6_drain_43 (by decide) (fun c240 => absurd c240 (iR_nlt (show iR 400 (400) (400) from ⟨by decide, by decide⟩) (nI_iR (j := j38_4) (a := 0) (b := 400) (by omega) (by omega) (by omega)) (by decide))) (fun _ => ?_)
      refine lv_aload_n hx hb dX6_drain_46 rfl (lv_at hl 1 rfl) ?_
      refine lv_ifnull hx hb dX6_drain_47 ?_
      refine lv_aload_n hx hb dX6_drain_50 rfl (lv_at hl 1 rfl) ?_
      refine get1 B hP hk38_3 1 (by decide) mw_198 rfl dX6_drain_51 ?_
      refine get4 B hP (lay1 hk38_3).2.1 2 (by decide) mw_130 rfl dX6_drain_54 ?_
      have i241 : iR (ρ (k38_3 + 2) 2) 0 8 := CI_get hI (kind_lt (lay1 hk38_3).2.1 (by decide)) (lay1 hk38_3).2.1 rfl
      obtain ⟨j242, lj242, uj242, ej242⟩ := iR_nat (a := 0) (b := 8) i241
      refine lv_topi (fun z243 ez243 => ?_)
      obtain rfl : z243 = nI j242 := ez243.trans ej242
      refine lv_if_ne (tgt := 73) hx hb dX6_drain_57 (by decide) (fun c244 => ?_) (fun c244 => ?_)
      · skip
        have n245 := mt (nI_eq (a := j242) (b := 0) (by omega) (by omega)).mpr (show ¬ (nI j242 = nI 0) from c244)
        exact b73_0 ls ρ _ _  (lv_sub hl [0, 1, 2] rfl) hP hS hI (iR_w fa1 (by decide) (by decide)) (by omega) (by omega)
      · skip
        have n246 := (nI_eq (a := j242) (b := 0) (by omega) (by omega)).mp (show (nI j242 = nI 0) from c244)
        refine lv_aload_n hx hb dX6_drain_60 rfl (lv_at hl 1 rfl) ?_
        refine get1 B hP hk38_3 2 (by decide) mw_201 rfl dX6_drain_61 ?_
        refine get4 B hP (lay1 hk38_3).2.2.1 2 (by decide) mw_130 rfl dX6_drain_64 ?_
        have i247 : iR (ρ (k38_3 + 5) 2) 0 8 := CI_get hI (kind_lt (lay1 hk38_3).2.2.1 (by decide)) (lay1 hk38_3).2.2.1 rfl
        obtain ⟨j248, lj248, uj248, ej248⟩ := iR_nat (a := 0) (b := 8) i247
        refine lv_topi (fun z249 ez249 => ?_)
        obtain rfl : z249 = nI j248 := ez249.trans ej248
        refine lv_if_ne (tgt := 73) hx hb dX6_drain_67 (by decide) (fun c250 => ?_) (fun c250 => ?_)
        · skip
          have n251 := mt (nI_eq (a := j248) (b := 0) (by omega) (by omega)).mpr (show ¬ (nI j248 = nI 0) from c250)
          exact b73_0 ls ρ _ _  (lv_sub hl [0, 1, 2] rfl) hP hS hI (iR_w fa1 (by decide) (by decide)) (by omega) (by omega)
        · skip
          have n252 := (nI_eq (a := j248) (b := 0) (by omega) (by omega)).mp (show (nI j248 = nI 0) from c250)
          refine lv_iload hx hb dX6_drain_70 (lv_at hl 2 rfl) ?_
          exact ret_i B hr hlk hP hS dX6_drain_72 (hI)
  refine lv_aload_n hx hb dX6_drain_0 rfl (lv_at hl 0 rfl) ?_
  refine get6 B hP (show hk 0 = 6 by decide +kernel) 0 (by decide) mw_412 rfl dX6_drain_1 ?_
  refine lv_iload_n hx hb dX6_drain_4 rfl (lv_at hl 1 rfl) ?_
  refine lv_iload_n hx hb dX6_drain_5 rfl (lv_at hl 2 rfl) ?_
  refine call_q (cVt (k := 1) (av := [.int a1, .int a2]) (rest := []) B hP hS (d_X5_linkAt l E ρ r S0 hS0 1 (show hk 1 = 5 by decide +kernel) a1 a2 hI) lk_RX6_132 (hrecv (ci := 5) B hP (hk_lt (c := 5) (show hk 1 = 5 by decide +kernel) (by decide)) (hcc5 _ _ (show hk 1 = 5 by decide +kernel)) rfl) rfl rfl hl.1 (Nat.le_of_ble_eq_true rfl) ⟨Nat.le_of_ble_eq_true rfl, Nat.le_of_ble_eq_true rfl⟩ ⟨Nat.le_of_ble_eq_true rfl, Nat.le_of_ble_eq_true rfl⟩ dX6_drain_6) hS (fun r253 ρ254 H locs q255 hP hS => ?_)
  obtain ⟨rfl, hI, q255⟩ := q255
  rcases q255 with rfl | ⟨j256, k257, rfl, hk257, ej256, uj256⟩
  · skip
    refine W.eq (g2 := F0 m 9 ls [.null]) rfl ?_
    refine lv_ifnonnullN hx hb dX6_drain_9 ?_
    refine lv_iconst (v := (-1)) hx hb dX6_drain_12 (by decide) ?_
    exact ret_i B hr hlk hP hS dX6_drain_13 (hI)
  · skip
    refine W.eq (g2 := F0 m 9 ls [.ref (E.2.1 + k257)]) rfl ?_
    refine lv_ifnonnull (tgt := 14) hx hb dX6_drain_9 (by decide) ?_
    refine lv_aload_n hx hb dX6_drain_14 rfl (lv_at hl 0 rfl) ?_
    refine get6 B hP (show hk 0 = 6 by decide +kernel) 1 (by decide) mw_413 rfl dX6_drain_15 ?_
    refine lv_aload_n hx hb dX6_drain_18 rfl (lv_at hl 0 rfl) ?_
    refine get6 B hP (show hk 0 = 6 by decide +kernel) 0 (by decide) mw_412 rfl dX6_drain_19 ?_
    refine call_v (cVt (k := 90) (av := [.ref (E.2.1 + 1)]) (rest := []) B hP hS (d_X5_copyFrom l E ρ r S0 hS0 90 (show hk 90 = 5 by decide +kernel) 1 (show hk 1 = 5 by decide +kernel) hI (fun _ q => q.elim)) lk_RX6_219 (hrecv (ci := 5) B hP (hk_lt (c := 5) (show hk 90 = 5 by decide +kernel) (by decide)) (hcc5 _ _ (show hk 90 = 5 by decide +kernel)) rfl) rfl rfl hl.1 (Nat.le_of_ble_eq_true rfl) ⟨Nat.le_of_ble_eq_true rfl, Nat.le_of_ble_eq_true rfl⟩ ⟨Nat.le_of_ble_eq_true rfl, Nat.le_of_ble_eq_true rfl⟩ dX6_drain_22) hS (fun ρ259 H locs q260 hP hS => ?_)
    have hI := q260
    refine lv_aload_n hx hb dX6_drain_25 rfl (lv_at hl 0 rfl) ?_
    refine get6 B hP (show hk 0 = 6 by decide +kernel) 1 (by decide) mw_413 rfl dX6_drain_26 ?_
    refine lv_iload_n hx hb dX6_drain_29 rfl (lv_at hl 1 rfl) ?_
    refine lv_topi (fun z262 ez262 => ?_)
    obtain rfl : z262 = nI j256 := ez262.trans ej256
    refine lv_iload_n hx hb dX6_drain_30 rfl (lv_at hl 2 rfl) ?_
    refine call_q (cVt (k := 90) (av := [.int (nI j256), .int a2]) (rest := []) B hP hS (d_X5_linkAt l E ρ259 r S0 hS0 90 (show hk 90 = 5 by decide +kernel) (nI j256) a2 hI) lk_RX6_132 (hrecv (ci := 5) B hP (hk_lt (c := 5) (show hk 90 = 5 by decide +kernel) (by decide)) (hcc5 _ _ (show hk 90 = 5 by decide +kernel)) rfl) rfl rfl hl.1 (Nat.le_of_ble_eq_true rfl) ⟨Nat.le_of_ble_eq_true rfl, Nat.le_of_ble_eq_true rfl⟩ ⟨Nat.le_of_ble_eq_true rfl, Nat.le_of_ble_eq_true rfl⟩ dX6_drain_31) hS (fun r263 ρ264 H locs q265 hP hS => ?_)
    obtain ⟨rfl, hI, q265⟩ := q265
    rcases q265 with rfl | ⟨j266, k267, rfl, hk267, ej266, uj266⟩
    · skip
      refine W.eq (g2 := F0 m 34 ls [.null]) rfl ?_
      refine lv_astore_nN (lv' := [(3, .null), (0, .ref (E.2.1 + 0)), (1, .int a1), (2, .int a2)]) hx hb dX6_drain_34 rfl hl (by decide) rfl (fun ls hl => ?_)
      refine lv_iconst (v := 0) hx hb dX6_drain_35 (by decide) ?_
      refine lv_istore (lv' := [(4, .int 0), (3, .null), (0, .ref (E.2.1 + 0)), (1, .int a1), (2, .int a2)]) hx hb dX6_drain_36 hl (by decide) rfl (fun ls hl => ?_)
      exact b38_0 ls ρ259 _ _  (lv_sub hl [2, 1, 0] rfl) hP hS hI (iR_w (show iR a1 0 1 from by rw [ej256]; exact nI_iR (by omega) (by omega) (by omega)) (by decide) (by decide))
    · skip
      refine W.eq (g2 := F0 m 34 ls [.ref (E.2.1 + k267)]) rfl ?_
      refine lv_astore_n (lv' := [(3, .ref (E.2.1 + k267)), (0, .ref (E.2.1 + 0)), (1, .int a1), (2, .int a2)]) hx hb dX6_drain_34 rfl hl (by decide) rfl (fun ls hl => ?_)
      refine lv_iconst (v := 0) hx hb dX6_drain_35 (by decide) ?_
      refine lv_istore (lv' := [(4, .int 0), (3, .ref (E.2.1 + k267)), (0, .ref (E.2.1 + 0)), (1, .int a1), (2, .int a2)]) hx hb dX6_drain_36 hl (by decide) rfl (fun ls hl => ?_)
      exact b38_1 ls ρ259 _ _ _ k267 0 (lv_sub hl [2, 1, 0] rfl) hP hS hI (Nat.lt_succ_self _) hk267 (by omega) (by omega) (iR_w (show iR a1 0 1 from by rw [ej256]; exact nI_iR (by omega) (by omega) (by omega)) (by decide) (by decide))

theorem lk_RX6_342 : LkV RX6 342 RX6 yX6_paperWith cX6_paperWith 2 (some (.object "HopNet$World")) 1 := ⟨⟨mw_959, mw_961, mw_8, mw_52, mw_962⟩, by decide +kernel⟩
theorem lk_RX6_346 : LkV RX6 346 RX5 yX5_framesMissed cX5_framesMissed 4 (some .int) 0 := ⟨⟨mw_963, mw_964, mw_965, mw_53, mw_966⟩, by decide +kernel⟩
theorem lk_RX6_349 : LkV RX6 349 RX5 yX5_linksOfOtherMap cX5_linksOfOtherMap 4 (some .int) 0 := ⟨⟨mw_967, mw_968, mw_969, mw_53, mw_970⟩, by decide +kernel⟩
set_option maxHeartbeats 4000000 in
set_option maxRecDepth 100000 in
theorem d_X6_would (l : Launch) (E : hE) (ρ r : Nat → Nat → Int32) (a1 : Int32) (a2 : Int32) (a3 : Int32) (hI : CI r S0 ρ) : Met l yX6_would (.code yX6_would cX6_would 6 (some .int) :: gw_all) (rmk 7 280) (cPre E ρ [.ref (E.2.1 + 0), .int a1, .int a2, .int a3]) (cI E (fun v ρ1 => CI r S0 ρ1)) 0 0 (hA E) := by
  refine ent (own := RX6) (by decide) rfl (Nat.le_of_ble_eq_true rfl) ?_
  intro p e s m below meth c ls B hr hlk hl hP hS
  have hx := B.1.1
  have hb := B.1.2.1
  have hown := B.1.2.2.2.1
  have hts := B.1.2.2.2.2
  have hl : lv_has ls 6 [(0, .ref (E.2.1 + 0)), (1, .int a1), (2, .int a2), (3, .int a3)] := hl
  have b33_0 : ∀ (ls : Array Slot) (ρ : Nat → Nat → Int32) (H : Heap) (locs : List Loc) , lv_has ls 6 [(0, .ref (E.2.1 + 0)), (1, .int a1), (2, .int a2), (3, .int a3)] → WP E ρ H → va_S (hA E) s.heap H locs → CI r S0 ρ → W p l e (rmk 7 280) s m ([.ref (E.2.1 + 0), .int a1, .int a2, .int a3] : List Value).toArray below meth c H locs 0 0 (MQ below (cI E (fun v ρ1 => CI r S0 ρ1)) ([.ref (E.2.1 + 0), .int a1, .int a2, .int a3] : List Value).toArray s 0 0 (hA E)) (F0 m 33 ls [.int 0]) := by
    intro ls ρ H locs  hl hP hS hI
    refine lv_istore (lv' := [(4, .int 0), (0, .ref (E.2.1 + 0)), (1, .int a1), (2, .int a2), (3, .int a3)]) hx hb dX6_would_33 hl (by decide) rfl (fun ls hl => ?_)
    refine lv_iload hx hb dX6_would_35 (lv_at hl 0 rfl) ?_
    refine lv_if_eq (tgt := 48) hx hb dX6_would_37 (by decide) (fun _ => ?_) (fun c57 => absurd rfl c57)
    refine lv_iconst (v := (-1)) hx hb dX6_would_48 (by decide) ?_
    exact ret_i B hr hlk hP hS dX6_would_49 (hI)
  have b33_1 : ∀ (ls : Array Slot) (ρ : Nat → Nat → Int32) (H : Heap) (locs : List Loc) , lv_has ls 6 [(0, .ref (E.2.1 + 0)), (1, .int a1), (2, .int a2), (3, .int a3)] → WP E ρ H → va_S (hA E) s.heap H locs → CI r S0 ρ → iR a2 (1) (200) → iR a3 (0) (2) → W p l e (rmk 7 280) s m ([.ref (E.2.1 + 0), .int a1, .int a2, .int a3] : List Value).toArray below meth c H locs 0 0 (MQ below (cI E (fun v ρ1 => CI r S0 ρ1)) ([.ref (E.2.1 + 0), .int a1, .int a2, .int a3] : List Value).toArray s 0 0 (hA E)) (F0 m 33 ls [.int 1]) := by
    intro ls ρ H locs  hl hP hS hI fa2 fa3
    refine lv_istore (lv' := [(4, .int 1), (0, .ref (E.2.1 + 0)), (1, .int a1), (2, .int a2), (3, .int a3)]) hx hb dX6_would_33 hl (by decide) rfl (fun ls hl => ?_)
    refine lv_iload hx hb dX6_would_35 (lv_at hl 0 rfl) ?_
    refine lv_if_eq (tgt := 48) hx hb dX6_would_37 (by decide) (fun c58 => absurd c58 (iR_ne (show iR 1 (1) (1) from ⟨by decide, by decide⟩) (show iR 0 (0) (0) from ⟨by decide, by decide⟩) (by decide))) (fun _ => ?_)
    refine lv_aload_n hx hb dX6_would_40 rfl (lv_at hl 1 rfl) ?_
    refine lv_iload_n hx hb dX6_would_41 rfl (lv_at hl 3 rfl) ?_
    obtain ⟨j59, lj59, uj59, ej59⟩ := iR_nat (a := 1) (b := 200) fa2
    refine lv_topi (fun z60 ez60 => ?_)
    obtain rfl : z60 = nI j59 := ez60.trans ej59
    refine call_i (cVt (k := 0) (av := [.int (nI j59)]) (rest := []) B hP hS (d_X6_hasTimeFor l E ρ r (nI j59) hI) lk_RX6_213 (hrecv (ci := 6) B hP (hk_lt (c := 6) (show hk 0 = 6 by decide +kernel) (by decide)) (hcc6 _ _ (show hk 0 = 6 by decide +kernel)) rfl) rfl rfl hl.1 (Nat.le_of_ble_eq_true rfl) ⟨Nat.le_of_ble_eq_true rfl, Nat.le_of_ble_eq_true rfl⟩ ⟨Nat.le_of_ble_eq_true rfl, Nat.le_of_ble_eq_true rfl⟩ dX6_would_42) hS (fun r61 ρ62 H locs q63 hP hS => ?_)
    obtain ⟨rfl, hI, i64⟩ := q63
    obtain ⟨j65, lj65, uj65, ej65⟩ := iR_nat (a := 0) (b := 1) i64
    refine lv_topi (fun z66 ez66 => ?_)
    obtain rfl : z66 = nI j65 := ez66.trans ej65
    refine lv_if_ne (tgt := 50) hx hb dX6_would_45 (by decide) (fun c67 => ?_) (fun c67 => ?_)
    · skip
      have n68 := mt (nI_eq (a := j65) (b := 0) (by omega) (by omega)).mpr (show ¬ (nI j65 = nI 0) from c67)
      refine lv_aload_n hx hb dX6_would_50 rfl (lv_at hl 1 rfl) ?_
      refine lv_iload_n hx hb dX6_would_51 rfl (lv_at hl 2 rfl) ?_
      refine call_q (cVt (k := 0) (av := [.int a1]) (rest := []) B hP hS (d_X6_paperWith l E ρ r a1 hI) lk_RX6_342 (hrecv (ci := 6) B hP (hk_lt (c := 6) (show hk 0 = 6 by decide +kernel) (by decide)) (hcc6 _ _ (show hk 0 = 6 by decide +kernel)) rfl) rfl rfl hl.1 (Nat.le_of_ble_eq_true rfl) ⟨Nat.le_of_ble_eq_true rfl, Nat.le_of_ble_eq_true rfl⟩ ⟨Nat.le_of_ble_eq_true rfl, Nat.le_of_ble_eq_true rfl⟩ dX6_would_52) hS (fun r69 ρ70 H locs q71 hP hS => ?_)
      obtain ⟨hI, rfl⟩ := q71
      refine W.eq (g2 := F0 m 55 ls [.ref (E.2.1 + 90)]) rfl ?_
      refine lv_iload_n hx hb dX6_would_55 rfl (lv_at hl 3 rfl) ?_
      refine lv_topi (fun z72 ez72 => ?_)
      obtain rfl : z72 = nI j59 := ez72.trans ej59
      refine call_i (cVt (k := 90) (av := [.int (nI j59)]) (rest := []) B hP hS (d_X5_heardInTurns l E ρ70 r 90 (show hk 90 = 5 by decide +kernel) j59 (by omega) (by omega) hI) lk_RX6_216 (hrecv (ci := 5) B hP (hk_lt (c := 5) (show hk 90 = 5 by decide +kernel) (by decide)) (hcc5 _ _ (show hk 90 = 5 by decide +kernel)) rfl) rfl rfl hl.1 (Nat.le_of_ble_eq_true rfl) ⟨Nat.le_of_ble_eq_true rfl, Nat.le_of_ble_eq_true rfl⟩ ⟨Nat.le_of_ble_eq_true rfl, Nat.le_of_ble_eq_true rfl⟩ dX6_would_56) hS (fun r73 ρ74 H locs q75 hP hS => ?_)
      have hI := q75
      refine lv_istore (lv' := [(5, .int r73), (4, .int 1), (0, .ref (E.2.1 + 0)), (1, .int a1), (2, .int a2), (3, .int a3)]) hx hb dX6_would_59 hl (by decide) rfl (fun ls hl => ?_)
      refine lv_iload_n hx hb dX6_would_61 rfl (lv_at hl 5 rfl) ?_
      obtain ⟨j77, lj77, uj77, ej77⟩ := iR_nat (a := 0) (b := 2) fa3
      refine lv_topi (fun z78 ez78 => ?_)
      obtain rfl : z78 = nI j77 := ez78.trans ej77
      rcases Classical.em ((nI j77).toInt = 0) with c79 | c79
      · skip
        refine lv_lookup (off := 26) (tgt := 88) hx hb dX6_would_62 (by decide) (by rw [c79]; rfl) (by decide) ?_
        refine lv_iload hx hb dX6_would_88 (lv_at hl 0 rfl) ?_
        exact ret_i B hr hlk hP hS dX6_would_90 (hI)
      · skip
        rcases Classical.em ((nI j77).toInt = 1) with c80 | c80
        · skip
          refine lv_lookup (off := 29) (tgt := 91) hx hb dX6_would_62 (by decide) (by rw [c80]; rfl) (by decide) ?_
          refine lv_aload_n hx hb dX6_would_91 rfl (lv_at hl 2 rfl) ?_
          refine get6 B hP (show hk 0 = 6 by decide +kernel) 1 (by decide) mw_413 rfl dX6_would_92 ?_
          refine call_i (cVt (k := 90) (av := []) (rest := []) B hP hS (d_X5_framesMissed l E ρ74 r S0 hS0 90 (show hk 90 = 5 by decide +kernel) hI) lk_RX6_346 (hrecv (ci := 5) B hP (hk_lt (c := 5) (show hk 90 = 5 by decide +kernel) (by decide)) (hcc5 _ _ (show hk 90 = 5 by decide +kernel)) rfl) rfl rfl hl.1 (Nat.le_of_ble_eq_true rfl) ⟨Nat.le_of_ble_eq_true rfl, Nat.le_of_ble_eq_true rfl⟩ ⟨Nat.le_of_ble_eq_true rfl, Nat.le_of_ble_eq_true rfl⟩ dX6_would_95) hS (fun r81 ρ82 H locs q83 hP hS => ?_)
          obtain ⟨rfl, hI⟩ := q83
          refine lv_aload_n hx hb dX6_would_98 rfl (lv_at hl 2 rfl) ?_
          refine get6 B hP (show hk 0 = 6 by decide +kernel) 0 (by decide) mw_412 rfl dX6_would_99 ?_
          refine call_i (cVt (k := 1) (av := []) (rest := [.int r81]) B hP hS (d_X5_framesMissed l E ρ74 r S0 hS0 1 (show hk 1 = 5 by decide +kernel) hI) lk_RX6_346 (hrecv (ci := 5) B hP (hk_lt (c := 5) (show hk 1 = 5 by decide +kernel) (by decide)) (hcc5 _ _ (show hk 1 = 5 by decide +kernel)) rfl) rfl rfl hl.1 (Nat.le_of_ble_eq_true rfl) ⟨Nat.le_of_ble_eq_true rfl, Nat.le_of_ble_eq_true rfl⟩ ⟨Nat.le_of_ble_eq_true rfl, Nat.le_of_ble_eq_true rfl⟩ dX6_would_102) hS (fun r85 ρ86 H locs q87 hP hS => ?_)
          obtain ⟨rfl, hI⟩ := q87
          refine lv_isub hx hb dX6_would_105 ?_
          exact ret_i B hr hlk hP hS dX6_would_106 (hI)
        · skip
          refine lv_lookup (off := 45) (tgt := 107) hx hb dX6_would_62 (by decide) (by simp only [Op.lookupswitch.offset]; rw [if_neg (fun h => c79 h.symm), if_neg (fun h => c80 h.symm)]) (by decide) ?_
          refine lv_aload_n hx hb dX6_would_107 rfl (lv_at hl 2 rfl) ?_
          refine get6 B hP (show hk 0 = 6 by decide +kernel) 1 (by decide) mw_413 rfl dX6_would_108 ?_
          refine call_i (cVt (k := 90) (av := []) (rest := []) B hP hS (d_X5_linksOfOtherMap l E ρ74 r S0 hS0 90 (show hk 90 = 5 by decide +kernel) hI) lk_RX6_349 (hrecv (ci := 5) B hP (hk_lt (c := 5) (show hk 90 = 5 by decide +kernel) (by decide)) (hcc5 _ _ (show hk 90 = 5 by decide +kernel)) rfl) rfl rfl hl.1 (Nat.le_of_ble_eq_true rfl) ⟨Nat.le_of_ble_eq_true rfl, Nat.le_of_ble_eq_true rfl⟩ ⟨Nat.le_of_ble_eq_true rfl, Nat.le_of_ble_eq_true rfl⟩ dX6_would_111) hS (fun r89 ρ90 H locs q91 hP hS => ?_)
          obtain ⟨rfl, hI⟩ := q91
          exact ret_i B hr hlk hP hS dX6_would_114 (hI)
    · skip
      have n93 := (nI_eq (a := j65) (b := 0) (by omega) (by omega)).mp (show (nI j65 = nI 0) from c67)
      refine lv_iconst (v := (-1)) hx hb dX6_would_48 (by decide) ?_
      exact ret_i B hr hlk hP hS dX6_would_49 (hI)
  have b32_0 : ∀ (ls : Array Slot) (ρ : Nat → Nat → Int32) (H : Heap) (locs : List Loc) , lv_has ls 6 [(0, .ref (E.2.1 + 0)), (1, .int a1), (2, .int a2), (3, .int a3)] → WP E ρ H → va_S (hA E) s.heap H locs → CI r S0 ρ → W p l e (rmk 7 280) s m ([.ref (E.2.1 + 0), .int a1, .int a2, .int a3] : List Value).toArray below meth c H locs 0 0 (MQ below (cI E (fun v ρ1 => CI r S0 ρ1)) ([.ref (E.2.1 + 0), .int a1, .int a2, .int a3] : List Value).toArray s 0 0 (hA E)) (F0 m 32 ls []) := by
    intro ls ρ H locs  hl hP hS hI
    refine lv_iconst (v := 0) hx hb dX6_would_32 (by decide) ?_
    exact b33_0 ls ρ _ _  (lv_sub hl [0, 1, 2, 3] rfl) hP hS hI 
  refine lv_iconst (v := 1) hx hb dX6_would_0 (by decide) ?_
  refine lv_iload_n hx hb dX6_would_1 rfl (lv_at hl 1 rfl) ?_
  refine call_i (cS (av := [.int 1, .int a1]) (rest := []) B hP hS (d_X6_isTerm l E ρ r S0 hS0 1 a1 hI) lk_RX6_119 rfl rfl hl.1 (Nat.le_of_ble_eq_true rfl) ⟨Nat.le_of_ble_eq_true rfl, Nat.le_of_ble_eq_true rfl⟩ ⟨Nat.le_of_ble_eq_true rfl, Nat.le_of_ble_eq_true rfl⟩ dX6_would_2) hS (fun r94 ρ95 H locs q96 hP hS => ?_)
  obtain ⟨rfl, hI, i97⟩ := q96
  obtain ⟨j98, lj98, uj98, ej98⟩ := iR_nat (a := 0) (b := 1) i97
  refine lv_topi (fun z99 ez99 => ?_)
  obtain rfl : z99 = nI j98 := ez99.trans ej98
  refine lv_if_eq (tgt := 32) hx hb dX6_would_5 (by decide) (fun c100 => ?_) (fun c100 => ?_)
  · skip
    have n101 := (nI_eq (a := j98) (b := 0) (by omega) (by omega)).mp (show (nI j98 = nI 0) from c100)
    exact b32_0 ls ρ _ _  (lv_sub hl [0, 1, 2, 3] rfl) hP hS hI 
  · skip
    have n102 := mt (nI_eq (a := j98) (b := 0) (by omega) (by omega)).mpr (show ¬ (nI j98 = nI 0) from c100)
    refine lv_iload_n hx hb dX6_would_8 rfl (lv_at hl 2 rfl) ?_
    refine lv_iconst (v := 1) hx hb dX6_would_9 (by decide) ?_
    refine lv_sipush (v := 200) hx hb dX6_would_10 (by decide) ?_
    refine call_i (cS (av := [.int a2, .int 1, .int 200]) (rest := []) B hP hS (c_isWithin l E ρ a2 1 200 1 200 (by decide) (by decide)) lk_RX6_54 rfl rfl hl.1 (Nat.le_of_ble_eq_true rfl) ⟨Nat.le_of_ble_eq_true rfl, Nat.le_of_ble_eq_true rfl⟩ ⟨Nat.le_of_ble_eq_true rfl, Nat.le_of_ble_eq_true rfl⟩ dX6_would_13) hS (fun r103 ρ104 H locs q105 hP hS => ?_)
    obtain ⟨rfl, q105⟩ := q105
    rcases q105 with ⟨rfl, q105⟩ | ⟨rfl, q105⟩
    · skip
      refine lv_if_eq (tgt := 32) hx hb dX6_would_16 (by decide) (fun c106 => absurd c106 (iR_ne (show iR 1 (1) (1) from ⟨by decide, by decide⟩) (show iR 0 (0) (0) from ⟨by decide, by decide⟩) (by decide))) (fun _ => ?_)
      refine lv_iload_n hx hb dX6_would_19 rfl (lv_at hl 3 rfl) ?_
      refine lv_iconst (v := 0) hx hb dX6_would_20 (by decide) ?_
      refine lv_iconst (v := 2) hx hb dX6_would_21 (by decide) ?_
      refine call_i (cS (av := [.int a3, .int 0, .int 2]) (rest := []) B hP hS (c_isWithin l E ρ a3 0 2 0 2 (by decide) (by decide)) lk_RX6_54 rfl rfl hl.1 (Nat.le_of_ble_eq_true rfl) ⟨Nat.le_of_ble_eq_true rfl, Nat.le_of_ble_eq_true rfl⟩ ⟨Nat.le_of_ble_eq_true rfl, Nat.le_of_ble_eq_true rfl⟩ dX6_would_22) hS (fun r107 ρ108 H locs q109 hP hS => ?_)
      obtain ⟨rfl, q109⟩ := q109
      rcases q109 with ⟨rfl, q109⟩ | ⟨rfl, q109⟩
      · skip
        refine lv_if_eq (tgt := 32) hx hb dX6_would_25 (by decide) (fun c110 => absurd c110 (iR_ne (show iR 1 (1) (1) from ⟨by decide, by decide⟩) (show iR 0 (0) (0) from ⟨by decide, by decide⟩) (by decide))) (fun _ => ?_)
        refine lv_iconst (v := 1) hx hb dX6_would_28 (by decide) ?_
        refine lv_goto (tgt := 33) hx hb dX6_would_29 (by decide) ?_
        exact b33_1 ls ρ _ _  (lv_sub hl [0, 1, 2, 3] rfl) hP hS hI (iR_w q105 (by decide) (by decide)) (iR_w q109 (by decide) (by decide))
      · skip
        refine lv_if_eq (tgt := 32) hx hb dX6_would_25 (by decide) (fun _ => ?_) (fun c111 => absurd rfl c111)
        exact b32_0 ls ρ _ _  (lv_sub hl [0, 1, 2, 3] rfl) hP hS hI 
    · skip
      refine lv_if_eq (tgt := 32) hx hb dX6_would_16 (by decide) (fun _ => ?_) (fun c112 => absurd rfl c112)
      exact b32_0 ls ρ _ _  (lv_sub hl [0, 1, 2, 3] rfl) hP hS hI 

theorem lk_RX6_352 : LkV RX6 352 RX5 yX5_isReadyAt cX5_isReadyAt 4 (some .boolean) 3 := ⟨⟨mw_975, mw_687, mw_688, mw_53, mw_689⟩, by decide +kernel⟩
set_option maxHeartbeats 4000000 in
set_option maxRecDepth 100000 in
theorem d_X6_ready (l : Launch) (E : hE) (ρ r : Nat → Nat → Int32) (a1 : Int32) (a2 : Int32) (hI : CI r S0 ρ) : Met l yX6_ready (.code yX6_ready cX6_ready 5 (some .int) :: gw_all) (rmk 4 160) (cPre E ρ [.ref (E.2.1 + 0), .int a1, .int a2]) (cI E (fun v ρ1 => ρ = ρ1 ∧ CI r S0 ρ1)) 0 0 (hA E) := by
  refine ent (own := RX6) (by decide) rfl (Nat.le_of_ble_eq_true rfl) ?_
  intro p e s m below meth c ls B hr hlk hl hP hS
  have hx := B.1.1
  have hb := B.1.2.1
  have hown := B.1.2.2.2.1
  have hts := B.1.2.2.2.2
  have hl : lv_has ls 5 [(0, .ref (E.2.1 + 0)), (1, .int a1), (2, .int a2)] := hl
  have b19_0 : ∀ (ls : Array Slot) (H : Heap) (locs : List Loc) (d19 : Nat) (k19_3 : Nat) (j19_4 : Nat), lv_has ls 5 [(0, .ref (E.2.1 + 0)), (1, .int a1), (3, .ref (E.2.1 + k19_3)), (4, .int (nI j19_4))] → WP E ρ H → va_S (hA E) s.heap H locs → 65536 - j19_4 < d19 → hk k19_3 = 1 → 0 ≤ j19_4 → j19_4 ≤ 65535 → iR a1 (0) (1) → W p l e (rmk 4 160) s m ([.ref (E.2.1 + 0), .int a1, .int a2] : List Value).toArray below meth c H locs 0 0 (MQ below (cI E (fun v ρ1 => ρ = ρ1 ∧ CI r S0 ρ1)) ([.ref (E.2.1 + 0), .int a1, .int a2] : List Value).toArray s 0 0 (hA E)) (F0 m 19 ls []) := by
    intro ls H locs d19
    induction d19 generalizing ls H locs with
    | zero => intro k19_3 j19_4 hl hP hS hd19 hk19_3 lj19_4 uj19_4 fa1; exact absurd hd19 (Nat.not_lt_zero _)
    | succ d19 ih19 =>
      intro k19_3 j19_4 hl hP hS hd19 hk19_3 lj19_4 uj19_4 fa1
      refine lv_iload hx hb dX6_ready_19 (lv_at hl 3 rfl) ?_
      refine lv_sipush (v := 200) hx hb dX6_ready_21 (by decide) ?_
      refine lv_icmp_ge (tgt := 66) hx hb dX6_ready_24 (by decide) (fun c106 => ?_) (fun c106 => ?_)
      · skip
        have n107 := mt (nx_lt (a := j19_4) (b := 200) (by omega) (by omega)).mpr (show ¬ (nI j19_4 < nI 200) from (Int32.not_lt.mpr c106))
        refine lv_iconst (v := (-1)) hx hb dX6_ready_66 (by decide) ?_
        exact ret_i B hr hlk hP hS dX6_ready_67 (⟨rfl, hI⟩)
      · skip
        have n108 := (nx_lt (a := j19_4) (b := 200) (by omega) (by omega)).mp (show (nI j19_4 < nI 200) from (Int32.not_le.mp c106))
        refine lv_aload_n hx hb dX6_ready_27 rfl (lv_at hl 0 rfl) ?_
        refine get6 B hP (show hk 0 = 6 by decide +kernel) 0 (by decide) mw_412 rfl dX6_ready_28 ?_
        refine lv_iload_n hx hb dX6_ready_31 rfl (lv_at hl 1 rfl) ?_
        obtain ⟨j109, lj109, uj109, ej109⟩ := iR_nat (a := 0) (b := 1) fa1
        refine lv_topi (fun z110 ez110 => ?_)
        obtain rfl : z110 = nI j109 := ez110.trans ej109
        refine lv_aload_n hx hb dX6_ready_32 rfl (lv_at hl 2 rfl) ?_
        refine lv_aload_n hx hb dX6_ready_33 rfl (lv_at hl 0 rfl) ?_
        refine get6 B hP (show hk 0 = 6 by decide +kernel) 0 (by decide) mw_412 rfl dX6_ready_34 ?_
        refine get5 B hP (show hk 1 = 5 by decide +kernel) 5 (by decide) mw_382 rfl dX6_ready_37 ?_
        refine lv_iload hx hb dX6_ready_40 (lv_at hl 3 rfl) ?_
        refine lv_iadd hx hb dX6_ready_42 ?_
        refine call_i (cVt (k := 1) (av := [.int (nI j109), .ref (E.2.1 + k19_3), .int ((ρ 1 5) + (nI j19_4))]) (rest := []) B hP hS (d_X5_isReadyAt l E ρ r S0 hS0 1 (show hk 1 = 5 by decide +kernel) j109 (by omega) (by omega) k19_3 hk19_3 ((ρ 1 5) + (nI j19_4)) hI) lk_RX6_352 (hrecv (ci := 5) B hP (hk_lt (c := 5) (show hk 1 = 5 by decide +kernel) (by decide)) (hcc5 _ _ (show hk 1 = 5 by decide +kernel)) rfl) rfl rfl hl.1 (Nat.le_of_ble_eq_true rfl) ⟨Nat.le_of_ble_eq_true rfl, Nat.le_of_ble_eq_true rfl⟩ ⟨Nat.le_of_ble_eq_true rfl, Nat.le_of_ble_eq_true rfl⟩ dX6_ready_43) hS (fun r111 ρ112 H locs q113 hP hS => ?_)
        obtain ⟨rfl, hI, i114⟩ := q113
        obtain ⟨j115, lj115, uj115, ej115⟩ := iR_nat (a := 0) (b := 1) i114
        refine lv_topi (fun z116 ez116 => ?_)
        obtain rfl : z116 = nI j115 := ez116.trans ej115
        refine lv_if_eq (tgt := 60) hx hb dX6_ready_46 (by decide) (fun c117 => ?_) (fun c117 => ?_)
        · skip
          have n118 := (nI_eq (a := j115) (b := 0) (by omega) (by omega)).mp (show (nI j115 = nI 0) from c117)
          refine lv_iinc (v := (nI (2 + j19_4))) (lv' := [(4, .int (nI (2 + j19_4))), (0, .ref (E.2.1 + 0)), (1, .int a1), (3, .ref (E.2.1 + k19_3))]) hx hb dX6_ready_60 hl (k := 3) rfl (show nI j19_4 + nI 2 = _ from (nI_add _ _).trans (congrArg nI (by omega))) (by decide) rfl (fun ls hl => ?_)
          refine lv_goto (tgt := 19) hx hb dX6_ready_63 (by decide) ?_
          exact ih19 ls _ _ k19_3 (2 + j19_4) (lv_sub hl [1, 2, 3, 0] rfl) hP hS (by omega) hk19_3 (by omega) (by omega) (iR_w fa1 (by decide) (by decide))
        · skip
          have n119 := mt (nI_eq (a := j115) (b := 0) (by omega) (by omega)).mpr (show ¬ (nI j115 = nI 0) from c117)
          refine lv_aload_n hx hb dX6_ready_49 rfl (lv_at hl 0 rfl) ?_
          refine get6 B hP (show hk 0 = 6 by decide +kernel) 0 (by decide) mw_412 rfl dX6_ready_50 ?_
          refine get5 B hP (show hk 1 = 5 by decide +kernel) 5 (by decide) mw_382 (v := .int (ρ 1 5)) (show some (Value.int (ρ 1 5)) = some (Value.int (ρ 1 5)) from congrArg (fun z => some (Value.int z)) rfl) dX6_ready_53 ?_
          refine lv_iload hx hb dX6_ready_56 (lv_at hl 3 rfl) ?_
          refine lv_iadd hx hb dX6_ready_58 ?_
          exact ret_i B hr hlk hP hS dX6_ready_59 (⟨rfl, hI⟩)
  refine lv_aload_n hx hb dX6_ready_0 rfl (lv_at hl 0 rfl) ?_
  refine get6 B hP (show hk 0 = 6 by decide +kernel) 0 (by decide) mw_412 rfl dX6_ready_1 ?_
  refine lv_iload_n hx hb dX6_ready_4 rfl (lv_at hl 1 rfl) ?_
  refine lv_iload_n hx hb dX6_ready_5 rfl (lv_at hl 2 rfl) ?_
  refine call_q (cVt (k := 1) (av := [.int a1, .int a2]) (rest := []) B hP hS (d_X5_linkAt l E ρ r S0 hS0 1 (show hk 1 = 5 by decide +kernel) a1 a2 hI) lk_RX6_132 (hrecv (ci := 5) B hP (hk_lt (c := 5) (show hk 1 = 5 by decide +kernel) (by decide)) (hcc5 _ _ (show hk 1 = 5 by decide +kernel)) rfl) rfl rfl hl.1 (Nat.le_of_ble_eq_true rfl) ⟨Nat.le_of_ble_eq_true rfl, Nat.le_of_ble_eq_true rfl⟩ ⟨Nat.le_of_ble_eq_true rfl, Nat.le_of_ble_eq_true rfl⟩ dX6_ready_6) hS (fun r120 ρ121 H locs q122 hP hS => ?_)
  obtain ⟨rfl, hI, q122⟩ := q122
  rcases q122 with rfl | ⟨j123, k124, rfl, hk124, ej123, uj123⟩
  · skip
    refine W.eq (g2 := F0 m 9 ls [.null]) rfl ?_
    refine lv_astore_nN (lv' := [(3, .null), (0, .ref (E.2.1 + 0)), (1, .int a1), (2, .int a2)]) hx hb dX6_ready_9 rfl hl (by decide) rfl (fun ls hl => ?_)
    refine lv_aload_nN hx hb dX6_ready_10 rfl (lv_at hl 0 rfl) ?_
    refine lv_ifnonnullN hx hb dX6_ready_11 ?_
    refine lv_iconst (v := (-1)) hx hb dX6_ready_14 (by decide) ?_
    exact ret_i B hr hlk hP hS dX6_ready_15 (⟨rfl, hI⟩)
  · skip
    refine W.eq (g2 := F0 m 9 ls [.ref (E.2.1 + k124)]) rfl ?_
    refine lv_astore_n (lv' := [(3, .ref (E.2.1 + k124)), (0, .ref (E.2.1 + 0)), (1, .int a1), (2, .int a2)]) hx hb dX6_ready_9 rfl hl (by decide) rfl (fun ls hl => ?_)
    refine lv_aload_n hx hb dX6_ready_10 rfl (lv_at hl 0 rfl) ?_
    refine lv_ifnonnull (tgt := 16) hx hb dX6_ready_11 (by decide) ?_
    refine lv_iconst (v := 0) hx hb dX6_ready_16 (by decide) ?_
    refine lv_istore (lv' := [(4, .int 0), (3, .ref (E.2.1 + k124)), (0, .ref (E.2.1 + 0)), (1, .int a1), (2, .int a2)]) hx hb dX6_ready_17 hl (by decide) rfl (fun ls hl => ?_)
    exact b19_0 ls _ _ _ k124 0 (lv_sub hl [2, 3, 1, 0] rfl) hP hS (Nat.lt_succ_self _) hk124 (by omega) (by omega) (iR_w (show iR a1 0 1 from by rw [ej123]; exact nI_iR (by omega) (by omega) (by omega)) (by decide) (by decide))

set_option maxHeartbeats 4000000 in
set_option maxRecDepth 100000 in
theorem d_X6_bothReady (l : Launch) (E : hE) (ρ r : Nat → Nat → Int32) (a1 : Int32) (a2 : Int32) (a3 : Int32) (a4 : Int32) (hI : CI r S0 ρ) : Met l yX6_bothReady (.code yX6_bothReady cX6_bothReady 10 (some .int) :: gw_all) (rmk 4 160) (cPre E ρ [.ref (E.2.1 + 0), .int a1, .int a2, .int a3, .int a4]) (cI E (fun v ρ1 => ρ = ρ1 ∧ CI r S0 ρ1)) 0 0 (hA E) := by
  refine ent (own := RX6) (by decide) rfl (Nat.le_of_ble_eq_true rfl) ?_
  intro p e s m below meth c ls B hr hlk hl hP hS
  have hx := B.1.1
  have hb := B.1.2.1
  have hown := B.1.2.2.2.1
  have hts := B.1.2.2.2.2
  have hl : lv_has ls 10 [(0, .ref (E.2.1 + 0)), (1, .int a1), (2, .int a2), (3, .int a3), (4, .int a4)] := hl
  have b52_0 : ∀ (ls : Array Slot) (H : Heap) (locs : List Loc) (d52 : Nat) (k52_5 : Nat) (k52_6 : Nat) (x52_7 : Int32) (j52_8 : Nat), lv_has ls 10 [(0, .ref (E.2.1 + 0)), (1, .int a1), (4, .int a4), (5, .ref (E.2.1 + k52_5)), (6, .ref (E.2.1 + k52_6)), (7, .int x52_7), (8, .int (nI j52_8))] → WP E ρ H → va_S (hA E) s.heap H locs → 201 - j52_8 < d52 → hk k52_5 = 1 → hk k52_6 = 1 → iR x52_7 (-2147483648) (2147483647) → 0 ≤ j52_8 → j52_8 ≤ 200 → iR a1 (0) (1) → iR a4 (1) (200) → W p l e (rmk 4 160) s m ([.ref (E.2.1 + 0), .int a1, .int a2, .int a3, .int a4] : List Value).toArray below meth c H locs 0 0 (MQ below (cI E (fun v ρ1 => ρ = ρ1 ∧ CI r S0 ρ1)) ([.ref (E.2.1 + 0), .int a1, .int a2, .int a3, .int a4] : List Value).toArray s 0 0 (hA E)) (F0 m 52 ls []) := by
    intro ls H locs d52
    induction d52 generalizing ls H locs with
    | zero => intro k52_5 k52_6 x52_7 j52_8 hl hP hS hd52 hk52_5 hk52_6 hx52_7 lj52_8 uj52_8 fa1 fa4; exact absurd hd52 (Nat.not_lt_zero _)
    | succ d52 ih52 =>
      intro k52_5 k52_6 x52_7 j52_8 hl hP hS hd52 hk52_5 hk52_6 hx52_7 lj52_8 uj52_8 fa1 fa4
      have b106_0 : ∀ (ls : Array Slot) (H : Heap) (locs : List Loc) (x106_7 : Int32), lv_has ls 10 [(0, .ref (E.2.1 + 0)), (1, .int a1), (4, .int a4), (5, .ref (E.2.1 + k52_5)), (6, .ref (E.2.1 + k52_6)), (7, .int x106_7), (8, .int (nI j52_8))] → WP E ρ H → va_S (hA E) s.heap H locs → iR x106_7 (-2147483648) (2147483647) → iR a1 (0) (1) → iR a4 (1) (200) → 0 ≤ j52_8 → j52_8 ≤ 199 → W p l e (rmk 4 160) s m ([.ref (E.2.1 + 0), .int a1, .int a2, .int a3, .int a4] : List Value).toArray below meth c H locs 0 0 (MQ below (cI E (fun v ρ1 => ρ = ρ1 ∧ CI r S0 ρ1)) ([.ref (E.2.1 + 0), .int a1, .int a2, .int a3, .int a4] : List Value).toArray s 0 0 (hA E)) (F0 m 106 ls []) := by
        intro ls H locs x106_7 hl hP hS hx106_7 fa1 fa4 tlj52_8 tuj52_8
        refine lv_iinc (v := (nI (1 + j52_8))) (lv' := [(8, .int (nI (1 + j52_8))), (0, .ref (E.2.1 + 0)), (1, .int a1), (4, .int a4), (5, .ref (E.2.1 + k52_5)), (6, .ref (E.2.1 + k52_6)), (7, .int x106_7)]) hx hb dX6_bothReady_106 hl (k := 6) rfl (show nI j52_8 + nI 1 = _ from (nI_add _ _).trans (congrArg nI (by omega))) (by decide) rfl (fun ls hl => ?_)
        refine lv_goto (tgt := 52) hx hb dX6_bothReady_109 (by decide) ?_
        exact ih52 ls _ _ k52_5 k52_6 (x106_7 : Int32) (1 + j52_8) (lv_sub hl [1, 2, 3, 4, 5, 6, 0] rfl) hP hS (by omega) hk52_5 hk52_6 (iR_w hx106_7 (by decide) (by decide)) (by omega) (by omega) (iR_w fa1 (by decide) (by decide)) (iR_w fa4 (by decide) (by decide))
      refine lv_iload hx hb dX6_bothReady_52 (lv_at hl 6 rfl) ?_
      refine lv_iload hx hb dX6_bothReady_54 (lv_at hl 2 rfl) ?_
      obtain ⟨j479, lj479, uj479, ej479⟩ := iR_nat (a := 1) (b := 200) fa4
      refine lv_topi (fun z480 ez480 => ?_)
      obtain rfl : z480 = nI j479 := ez480.trans ej479
      refine lv_icmp_ge (tgt := 112) hx hb dX6_bothReady_56 (by decide) (fun c481 => ?_) (fun c481 => ?_)
      · skip
        have n482 := mt (nx_lt (a := j52_8) (b := j479) (by omega) (by omega)).mpr (show ¬ (nI j52_8 < nI j479) from (Int32.not_lt.mpr c481))
        refine lv_iload hx hb dX6_bothReady_112 (lv_at hl 5 rfl) ?_
        exact ret_i B hr hlk hP hS dX6_bothReady_114 (⟨rfl, hI⟩)
      · skip
        have n483 := (nx_lt (a := j52_8) (b := j479) (by omega) (by omega)).mp (show (nI j52_8 < nI j479) from (Int32.not_le.mp c481))
        refine lv_aload_n hx hb dX6_bothReady_59 rfl (lv_at hl 0 rfl) ?_
        refine get6 B hP (show hk 0 = 6 by decide +kernel) 0 (by decide) mw_412 rfl dX6_bothReady_60 ?_
        refine get5 B hP (show hk 1 = 5 by decide +kernel) 5 (by decide) mw_382 rfl dX6_bothReady_63 ?_
        refine lv_iconst (v := 2) hx hb dX6_bothReady_66 (by decide) ?_
        refine lv_iload hx hb dX6_bothReady_67 (lv_at hl 6 rfl) ?_
        refine lv_imul hx hb dX6_bothReady_69 ?_
        refine lv_topi (fun z484 ez484 => ?_)
        obtain rfl : z484 = (nI (2 * j52_8)) := ez484.trans (by rw [show 2 = nI 2 from rfl, show (nI j52_8) = nI j52_8 from rfl, nI_mul] <;> exact congrArg nI (by omega))
        refine lv_iadd hx hb dX6_bothReady_70 ?_
        refine lv_istore (lv' := [(9, .int ((ρ 1 5) + (nI (2 * j52_8)))), (0, .ref (E.2.1 + 0)), (1, .int a1), (4, .int a4), (5, .ref (E.2.1 + k52_5)), (6, .ref (E.2.1 + k52_6)), (7, .int x52_7), (8, .int (nI j52_8))]) hx hb dX6_bothReady_71 hl (by decide) rfl (fun ls hl => ?_)
        refine lv_aload_n hx hb dX6_bothReady_73 rfl (lv_at hl 1 rfl) ?_
        refine get6 B hP (show hk 0 = 6 by decide +kernel) 0 (by decide) mw_412 rfl dX6_bothReady_74 ?_
        refine lv_iload_n hx hb dX6_bothReady_77 rfl (lv_at hl 2 rfl) ?_
        obtain ⟨j485, lj485, uj485, ej485⟩ := iR_nat (a := 0) (b := 1) fa1
        refine lv_topi (fun z486 ez486 => ?_)
        obtain rfl : z486 = nI j485 := ez486.trans ej485
        refine lv_aload hx hb dX6_bothReady_78 (lv_at hl 4 rfl) ?_
        refine lv_iload hx hb dX6_bothReady_80 (lv_at hl 0 rfl) ?_
        refine call_i (cVt (k := 1) (av := [.int (nI j485), .ref (E.2.1 + k52_5), .int ((ρ 1 5) + (nI (2 * j52_8)))]) (rest := []) B hP hS (d_X5_isReadyAt l E ρ r S0 hS0 1 (show hk 1 = 5 by decide +kernel) j485 (by omega) (by omega) k52_5 hk52_5 ((ρ 1 5) + (nI (2 * j52_8))) hI) lk_RX6_352 (hrecv (ci := 5) B hP (hk_lt (c := 5) (show hk 1 = 5 by decide +kernel) (by decide)) (hcc5 _ _ (show hk 1 = 5 by decide +kernel)) rfl) rfl rfl hl.1 (Nat.le_of_ble_eq_true rfl) ⟨Nat.le_of_ble_eq_true rfl, Nat.le_of_ble_eq_true rfl⟩ ⟨Nat.le_of_ble_eq_true rfl, Nat.le_of_ble_eq_true rfl⟩ dX6_bothReady_82) hS (fun r487 ρ488 H locs q489 hP hS => ?_)
        obtain ⟨rfl, hI, i490⟩ := q489
        obtain ⟨j491, lj491, uj491, ej491⟩ := iR_nat (a := 0) (b := 1) i490
        refine lv_topi (fun z492 ez492 => ?_)
        obtain rfl : z492 = nI j491 := ez492.trans ej491
        refine lv_if_eq (tgt := 106) hx hb dX6_bothReady_85 (by decide) (fun c493 => ?_) (fun c493 => ?_)
        · skip
          have n494 := (nI_eq (a := j491) (b := 0) (by omega) (by omega)).mp (show (nI j491 = nI 0) from c493)
          exact b106_0 ls _ _ (x52_7 : Int32) (lv_sub hl [1, 2, 3, 4, 5, 6, 7] rfl) hP hS (iR_w hx52_7 (by decide) (by decide)) (iR_w fa1 (by decide) (by decide)) (iR_w fa4 (by decide) (by decide)) (by omega) (by omega)
        · skip
          have n495 := mt (nI_eq (a := j491) (b := 0) (by omega) (by omega)).mpr (show ¬ (nI j491 = nI 0) from c493)
          refine lv_aload_n hx hb dX6_bothReady_88 rfl (lv_at hl 1 rfl) ?_
          refine get6 B hP (show hk 0 = 6 by decide +kernel) 0 (by decide) mw_412 rfl dX6_bothReady_89 ?_
          refine lv_iload_n hx hb dX6_bothReady_92 rfl (lv_at hl 2 rfl) ?_
          refine lv_topi (fun z496 ez496 => ?_)
          obtain rfl : z496 = nI j485 := ez496.trans ej485
          refine lv_aload hx hb dX6_bothReady_93 (lv_at hl 5 rfl) ?_
          refine lv_iload hx hb dX6_bothReady_95 (lv_at hl 0 rfl) ?_
          refine call_i (cVt (k := 1) (av := [.int (nI j485), .ref (E.2.1 + k52_6), .int ((ρ 1 5) + (nI (2 * j52_8)))]) (rest := []) B hP hS (d_X5_isReadyAt l E ρ r S0 hS0 1 (show hk 1 = 5 by decide +kernel) j485 (by omega) (by omega) k52_6 hk52_6 ((ρ 1 5) + (nI (2 * j52_8))) hI) lk_RX6_352 (hrecv (ci := 5) B hP (hk_lt (c := 5) (show hk 1 = 5 by decide +kernel) (by decide)) (hcc5 _ _ (show hk 1 = 5 by decide +kernel)) rfl) rfl rfl hl.1 (Nat.le_of_ble_eq_true rfl) ⟨Nat.le_of_ble_eq_true rfl, Nat.le_of_ble_eq_true rfl⟩ ⟨Nat.le_of_ble_eq_true rfl, Nat.le_of_ble_eq_true rfl⟩ dX6_bothReady_97) hS (fun r497 ρ498 H locs q499 hP hS => ?_)
          obtain ⟨rfl, hI, i500⟩ := q499
          obtain ⟨j501, lj501, uj501, ej501⟩ := iR_nat (a := 0) (b := 1) i500
          refine lv_topi (fun z502 ez502 => ?_)
          obtain rfl : z502 = nI j501 := ez502.trans ej501
          refine lv_if_eq (tgt := 106) hx hb dX6_bothReady_100 (by decide) (fun c503 => ?_) (fun c503 => ?_)
          · skip
            have n504 := (nI_eq (a := j501) (b := 0) (by omega) (by omega)).mp (show (nI j501 = nI 0) from c503)
            exact b106_0 ls _ _ (x52_7 : Int32) (lv_sub hl [1, 2, 3, 4, 5, 6, 7] rfl) hP hS (iR_w hx52_7 (by decide) (by decide)) (iR_w fa1 (by decide) (by decide)) (iR_w fa4 (by decide) (by decide)) (by omega) (by omega)
          · skip
            have n505 := mt (nI_eq (a := j501) (b := 0) (by omega) (by omega)).mpr (show ¬ (nI j501 = nI 0) from c503)
            refine lv_iinc (v := (x52_7 + 1)) (lv' := [(7, .int (x52_7 + 1)), (9, .int ((ρ 1 5) + (nI (2 * j52_8)))), (0, .ref (E.2.1 + 0)), (1, .int a1), (4, .int a4), (5, .ref (E.2.1 + k52_5)), (6, .ref (E.2.1 + k52_6)), (8, .int (nI j52_8))]) hx hb dX6_bothReady_103 hl (k := 6) rfl rfl (by decide) rfl (fun ls hl => ?_)
            exact b106_0 ls _ _ ((x52_7 + 1) : Int32) (lv_sub hl [2, 3, 4, 5, 6, 0, 7] rfl) hP hS (iR_w (iR_any (x52_7 + 1)) (by decide) (by decide)) (iR_w fa1 (by decide) (by decide)) (iR_w fa4 (by decide) (by decide)) (by omega) (by omega)
  refine lv_aload_n hx hb dX6_bothReady_0 rfl (lv_at hl 0 rfl) ?_
  refine get6 B hP (show hk 0 = 6 by decide +kernel) 0 (by decide) mw_412 rfl dX6_bothReady_1 ?_
  refine lv_iload_n hx hb dX6_bothReady_4 rfl (lv_at hl 1 rfl) ?_
  refine lv_iload_n hx hb dX6_bothReady_5 rfl (lv_at hl 2 rfl) ?_
  refine call_q (cVt (k := 1) (av := [.int a1, .int a2]) (rest := []) B hP hS (d_X5_linkAt l E ρ r S0 hS0 1 (show hk 1 = 5 by decide +kernel) a1 a2 hI) lk_RX6_132 (hrecv (ci := 5) B hP (hk_lt (c := 5) (show hk 1 = 5 by decide +kernel) (by decide)) (hcc5 _ _ (show hk 1 = 5 by decide +kernel)) rfl) rfl rfl hl.1 (Nat.le_of_ble_eq_true rfl) ⟨Nat.le_of_ble_eq_true rfl, Nat.le_of_ble_eq_true rfl⟩ ⟨Nat.le_of_ble_eq_true rfl, Nat.le_of_ble_eq_true rfl⟩ dX6_bothReady_6) hS (fun r506 ρ507 H locs q508 hP hS => ?_)
  obtain ⟨rfl, hI, q508⟩ := q508
  rcases q508 with rfl | ⟨j509, k510, rfl, hk510, ej509, uj509⟩
  · skip
    refine W.eq (g2 := F0 m 9 ls [.null]) rfl ?_
    refine lv_astoreN (lv' := [(5, .null), (0, .ref (E.2.1 + 0)), (1, .int a1), (2, .int a2), (3, .int a3), (4, .int a4)]) hx hb dX6_bothReady_9 hl (by decide) rfl (fun ls hl => ?_)
    refine lv_aload_n hx hb dX6_bothReady_11 rfl (lv_at hl 1 rfl) ?_
    refine get6 B hP (show hk 0 = 6 by decide +kernel) 0 (by decide) mw_412 rfl dX6_bothReady_12 ?_
    refine lv_iload_n hx hb dX6_bothReady_15 rfl (lv_at hl 2 rfl) ?_
    refine lv_iload_n hx hb dX6_bothReady_16 rfl (lv_at hl 4 rfl) ?_
    refine call_q (cVt (k := 1) (av := [.int a1, .int a3]) (rest := []) B hP hS (d_X5_linkAt l E ρ r S0 hS0 1 (show hk 1 = 5 by decide +kernel) a1 a3 hI) lk_RX6_132 (hrecv (ci := 5) B hP (hk_lt (c := 5) (show hk 1 = 5 by decide +kernel) (by decide)) (hcc5 _ _ (show hk 1 = 5 by decide +kernel)) rfl) rfl rfl hl.1 (Nat.le_of_ble_eq_true rfl) ⟨Nat.le_of_ble_eq_true rfl, Nat.le_of_ble_eq_true rfl⟩ ⟨Nat.le_of_ble_eq_true rfl, Nat.le_of_ble_eq_true rfl⟩ dX6_bothReady_17) hS (fun r511 ρ512 H locs q513 hP hS => ?_)
    obtain ⟨rfl, hI, q513⟩ := q513
    rcases q513 with rfl | ⟨j514, k515, rfl, hk515, ej514, uj514⟩
    · skip
      refine W.eq (g2 := F0 m 20 ls [.null]) rfl ?_
      refine lv_astoreN (lv' := [(6, .null), (5, .null), (0, .ref (E.2.1 + 0)), (1, .int a1), (2, .int a2), (3, .int a3), (4, .int a4)]) hx hb dX6_bothReady_20 hl (by decide) rfl (fun ls hl => ?_)
      refine lv_aloadN hx hb dX6_bothReady_22 (lv_at hl 1 rfl) ?_
      refine lv_ifnullN (tgt := 44) hx hb dX6_bothReady_24 (by decide) ?_
      refine lv_iconst (v := (-1)) hx hb dX6_bothReady_44 (by decide) ?_
      exact ret_i B hr hlk hP hS dX6_bothReady_45 (⟨rfl, hI⟩)
    · skip
      refine W.eq (g2 := F0 m 20 ls [.ref (E.2.1 + k515)]) rfl ?_
      refine lv_astore (lv' := [(6, .ref (E.2.1 + k515)), (5, .null), (0, .ref (E.2.1 + 0)), (1, .int a1), (2, .int a2), (3, .int a3), (4, .int a4)]) hx hb dX6_bothReady_20 hl (by decide) rfl (fun ls hl => ?_)
      refine lv_aloadN hx hb dX6_bothReady_22 (lv_at hl 1 rfl) ?_
      refine lv_ifnullN (tgt := 44) hx hb dX6_bothReady_24 (by decide) ?_
      refine lv_iconst (v := (-1)) hx hb dX6_bothReady_44 (by decide) ?_
      exact ret_i B hr hlk hP hS dX6_bothReady_45 (⟨rfl, hI⟩)
  · skip
    refine W.eq (g2 := F0 m 9 ls [.ref (E.2.1 + k510)]) rfl ?_
    refine lv_astore (lv' := [(5, .ref (E.2.1 + k510)), (0, .ref (E.2.1 + 0)), (1, .int a1), (2, .int a2), (3, .int a3), (4, .int a4)]) hx hb dX6_bothReady_9 hl (by decide) rfl (fun ls hl => ?_)
    refine lv_aload_n hx hb dX6_bothReady_11 rfl (lv_at hl 1 rfl) ?_
    refine get6 B hP (show hk 0 = 6 by decide +kernel) 0 (by decide) mw_412 rfl dX6_bothReady_12 ?_
    refine lv_iload_n hx hb dX6_bothReady_15 rfl (lv_at hl 2 rfl) ?_
    refine lv_topi (fun z516 ez516 => ?_)
    obtain rfl : z516 = nI j509 := ez516.trans ej509
    refine lv_iload_n hx hb dX6_bothReady_16 rfl (lv_at hl 4 rfl) ?_
    refine call_q (cVt (k := 1) (av := [.int (nI j509), .int a3]) (rest := []) B hP hS (d_X5_linkAt l E ρ r S0 hS0 1 (show hk 1 = 5 by decide +kernel) (nI j509) a3 hI) lk_RX6_132 (hrecv (ci := 5) B hP (hk_lt (c := 5) (show hk 1 = 5 by decide +kernel) (by decide)) (hcc5 _ _ (show hk 1 = 5 by decide +kernel)) rfl) rfl rfl hl.1 (Nat.le_of_ble_eq_true rfl) ⟨Nat.le_of_ble_eq_true rfl, Nat.le_of_ble_eq_true rfl⟩ ⟨Nat.le_of_ble_eq_true rfl, Nat.le_of_ble_eq_true rfl⟩ dX6_bothReady_17) hS (fun r517 ρ518 H locs q519 hP hS => ?_)
    obtain ⟨rfl, hI, q519⟩ := q519
    rcases q519 with rfl | ⟨j520, k521, rfl, hk521, ej520, uj520⟩
    · skip
      refine W.eq (g2 := F0 m 20 ls [.null]) rfl ?_
      refine lv_astoreN (lv' := [(6, .null), (5, .ref (E.2.1 + k510)), (0, .ref (E.2.1 + 0)), (1, .int a1), (2, .int a2), (3, .int a3), (4, .int a4)]) hx hb dX6_bothReady_20 hl (by decide) rfl (fun ls hl => ?_)
      refine lv_aload hx hb dX6_bothReady_22 (lv_at hl 1 rfl) ?_
      refine lv_ifnull hx hb dX6_bothReady_24 ?_
      refine lv_aloadN hx hb dX6_bothReady_27 (lv_at hl 0 rfl) ?_
      refine lv_ifnullN (tgt := 44) hx hb dX6_bothReady_29 (by decide) ?_
      refine lv_iconst (v := (-1)) hx hb dX6_bothReady_44 (by decide) ?_
      exact ret_i B hr hlk hP hS dX6_bothReady_45 (⟨rfl, hI⟩)
    · skip
      refine W.eq (g2 := F0 m 20 ls [.ref (E.2.1 + k521)]) rfl ?_
      refine lv_astore (lv' := [(6, .ref (E.2.1 + k521)), (5, .ref (E.2.1 + k510)), (0, .ref (E.2.1 + 0)), (1, .int a1), (2, .int a2), (3, .int a3), (4, .int a4)]) hx hb dX6_bothReady_20 hl (by decide) rfl (fun ls hl => ?_)
      refine lv_aload hx hb dX6_bothReady_22 (lv_at hl 1 rfl) ?_
      refine lv_ifnull hx hb dX6_bothReady_24 ?_
      refine lv_aload hx hb dX6_bothReady_27 (lv_at hl 0 rfl) ?_
      refine lv_ifnull hx hb dX6_bothReady_29 ?_
      refine lv_iload hx hb dX6_bothReady_32 (lv_at hl 6 rfl) ?_
      refine lv_iconst (v := 1) hx hb dX6_bothReady_34 (by decide) ?_
      refine lv_sipush (v := 200) hx hb dX6_bothReady_35 (by decide) ?_
      refine call_i (cS (av := [.int a4, .int 1, .int 200]) (rest := []) B hP hS (c_isWithin l E ρ a4 1 200 1 200 (by decide) (by decide)) lk_RX6_54 rfl rfl hl.1 (Nat.le_of_ble_eq_true rfl) ⟨Nat.le_of_ble_eq_true rfl, Nat.le_of_ble_eq_true rfl⟩ ⟨Nat.le_of_ble_eq_true rfl, Nat.le_of_ble_eq_true rfl⟩ dX6_bothReady_38) hS (fun r522 ρ523 H locs q524 hP hS => ?_)
      obtain ⟨rfl, q524⟩ := q524
      rcases q524 with ⟨rfl, q524⟩ | ⟨rfl, q524⟩
      · skip
        refine lv_if_ne (tgt := 46) hx hb dX6_bothReady_41 (by decide) (fun _ => ?_) (fun c525 => absurd c525 (iR_ne (show iR 1 (1) (1) from ⟨by decide, by decide⟩) (show iR 0 (0) (0) from ⟨by decide, by decide⟩) (by decide)))
        refine lv_iconst (v := 0) hx hb dX6_bothReady_46 (by decide) ?_
        refine lv_istore (lv' := [(7, .int 0), (6, .ref (E.2.1 + k521)), (5, .ref (E.2.1 + k510)), (0, .ref (E.2.1 + 0)), (1, .int a1), (2, .int a2), (3, .int a3), (4, .int a4)]) hx hb dX6_bothReady_47 hl (by decide) rfl (fun ls hl => ?_)
        refine lv_iconst (v := 0) hx hb dX6_bothReady_49 (by decide) ?_
        refine lv_istore (lv' := [(8, .int 0), (7, .int 0), (6, .ref (E.2.1 + k521)), (5, .ref (E.2.1 + k510)), (0, .ref (E.2.1 + 0)), (1, .int a1), (2, .int a2), (3, .int a3), (4, .int a4)]) hx hb dX6_bothReady_50 hl (by decide) rfl (fun ls hl => ?_)
        exact b52_0 ls _ _ _ k510 k521 (0 : Int32) 0 (lv_sub hl [4, 5, 8, 3, 2, 1, 0] rfl) hP hS (Nat.lt_succ_self _) hk510 hk521 (iR_w (show iR 0 (0) (0) from ⟨by decide, by decide⟩) (by decide) (by decide)) (by omega) (by omega) (iR_w (show iR a1 0 1 from by rw [ej509]; exact nI_iR (by omega) (by omega) (by omega)) (by decide) (by decide)) (iR_w q524 (by decide) (by decide))
      · skip
        refine lv_if_ne (tgt := 46) hx hb dX6_bothReady_41 (by decide) (fun c526 => absurd rfl c526) (fun _ => ?_)
        refine lv_iconst (v := (-1)) hx hb dX6_bothReady_44 (by decide) ?_
        exact ret_i B hr hlk hP hS dX6_bothReady_45 (⟨rfl, hI⟩)

set_option maxHeartbeats 4000000 in
set_option maxRecDepth 100000 in
theorem d_X6_ahead (l : Launch) (E : hE) (ρ r : Nat → Nat → Int32) (a1 : Int32) (a2 : Int32) (hI : CI r S0 ρ) : Met l yX6_ahead (.code yX6_ahead cX6_ahead 4 (some .int) :: gw_all) (rmk 7 280) (cPre E ρ [.ref (E.2.1 + 0), .int a1, .int a2]) (cI E (fun v ρ1 => CI r S0 ρ1)) 0 0 (hA E) := by
  refine ent (own := RX6) (by decide) rfl (Nat.le_of_ble_eq_true rfl) ?_
  intro p e s m below meth c ls B hr hlk hl hP hS
  have hx := B.1.1
  have hb := B.1.2.1
  have hown := B.1.2.2.2.1
  have hts := B.1.2.2.2.2
  have hl : lv_has ls 4 [(0, .ref (E.2.1 + 0)), (1, .int a1), (2, .int a2)] := hl
  refine lv_aload_n hx hb dX6_ahead_0 rfl (lv_at hl 0 rfl) ?_
  refine get6 B hP (show hk 0 = 6 by decide +kernel) 0 (by decide) mw_412 rfl dX6_ahead_1 ?_
  refine lv_iload_n hx hb dX6_ahead_4 rfl (lv_at hl 1 rfl) ?_
  refine call_q (cVt (k := 1) (av := [.int a1]) (rest := []) B hP hS (d_X5_netAt l E ρ r S0 hS0 1 (show hk 1 = 5 by decide +kernel) a1 hI) lk_RX6_95 (hrecv (ci := 5) B hP (hk_lt (c := 5) (show hk 1 = 5 by decide +kernel) (by decide)) (hcc5 _ _ (show hk 1 = 5 by decide +kernel)) rfl) rfl rfl hl.1 (Nat.le_of_ble_eq_true rfl) ⟨Nat.le_of_ble_eq_true rfl, Nat.le_of_ble_eq_true rfl⟩ ⟨Nat.le_of_ble_eq_true rfl, Nat.le_of_ble_eq_true rfl⟩ dX6_ahead_5) hS (fun r37 ρ38 H locs q39 hP hS => ?_)
  obtain ⟨rfl, hI, q39⟩ := q39
  rcases q39 with rfl | ⟨j40, rfl, ej40, uj40⟩
  · skip
    refine W.eq (g2 := F0 m 8 ls [.null]) rfl ?_
    refine lv_ifnullN (tgt := 30) hx hb dX6_ahead_8 (by decide) ?_
    refine lv_iconst (v := (-1)) hx hb dX6_ahead_30 (by decide) ?_
    exact ret_i B hr hlk hP hS dX6_ahead_31 (hI)
  · skip
    refine W.eq (g2 := F0 m 8 ls [.ref (E.2.1 + (5 + 1 + 42 * j40))]) rfl ?_
    refine lv_ifnull hx hb dX6_ahead_8 ?_
    refine lv_iload_n hx hb dX6_ahead_11 rfl (lv_at hl 2 rfl) ?_
    refine lv_iconst (v := 1) hx hb dX6_ahead_12 (by decide) ?_
    refine lv_sipush (v := 200) hx hb dX6_ahead_13 (by decide) ?_
    refine call_i (cS (av := [.int a2, .int 1, .int 200]) (rest := []) B hP hS (c_isWithin l E ρ a2 1 200 1 200 (by decide) (by decide)) lk_RX6_54 rfl rfl hl.1 (Nat.le_of_ble_eq_true rfl) ⟨Nat.le_of_ble_eq_true rfl, Nat.le_of_ble_eq_true rfl⟩ ⟨Nat.le_of_ble_eq_true rfl, Nat.le_of_ble_eq_true rfl⟩ dX6_ahead_16) hS (fun r42 ρ43 H locs q44 hP hS => ?_)
    obtain ⟨rfl, q44⟩ := q44
    rcases q44 with ⟨rfl, q44⟩ | ⟨rfl, q44⟩
    · skip
      refine lv_if_eq (tgt := 30) hx hb dX6_ahead_19 (by decide) (fun c45 => absurd c45 (iR_ne (show iR 1 (1) (1) from ⟨by decide, by decide⟩) (show iR 0 (0) (0) from ⟨by decide, by decide⟩) (by decide))) (fun _ => ?_)
      refine lv_aload_n hx hb dX6_ahead_22 rfl (lv_at hl 0 rfl) ?_
      refine lv_iload_n hx hb dX6_ahead_23 rfl (lv_at hl 2 rfl) ?_
      obtain ⟨j46, lj46, uj46, ej46⟩ := iR_nat (a := 1) (b := 200) q44
      refine lv_topi (fun z47 ez47 => ?_)
      obtain rfl : z47 = nI j46 := ez47.trans ej46
      refine call_i (cVt (k := 0) (av := [.int (nI j46)]) (rest := []) B hP hS (d_X6_hasTimeFor l E ρ r (nI j46) hI) lk_RX6_213 (hrecv (ci := 6) B hP (hk_lt (c := 6) (show hk 0 = 6 by decide +kernel) (by decide)) (hcc6 _ _ (show hk 0 = 6 by decide +kernel)) rfl) rfl rfl hl.1 (Nat.le_of_ble_eq_true rfl) ⟨Nat.le_of_ble_eq_true rfl, Nat.le_of_ble_eq_true rfl⟩ ⟨Nat.le_of_ble_eq_true rfl, Nat.le_of_ble_eq_true rfl⟩ dX6_ahead_24) hS (fun r48 ρ49 H locs q50 hP hS => ?_)
      obtain ⟨rfl, hI, i51⟩ := q50
      obtain ⟨j52, lj52, uj52, ej52⟩ := iR_nat (a := 0) (b := 1) i51
      refine lv_topi (fun z53 ez53 => ?_)
      obtain rfl : z53 = nI j52 := ez53.trans ej52
      refine lv_if_ne (tgt := 32) hx hb dX6_ahead_27 (by decide) (fun c54 => ?_) (fun c54 => ?_)
      · skip
        have n55 := mt (nI_eq (a := j52) (b := 0) (by omega) (by omega)).mpr (show ¬ (nI j52 = nI 0) from c54)
        refine lv_aload_n hx hb dX6_ahead_32 rfl (lv_at hl 0 rfl) ?_
        refine lv_aload_n hx hb dX6_ahead_33 rfl (lv_at hl 0 rfl) ?_
        refine get6 B hP (show hk 0 = 6 by decide +kernel) 0 (by decide) mw_412 rfl dX6_ahead_34 ?_
        refine get5 B hP (show hk 1 = 5 by decide +kernel) 7 (by decide) mw_386 rfl dX6_ahead_37 ?_
        refine call_q (cVt (k := 0) (av := [.int (ρ 1 7)]) (rest := []) B hP hS (d_X6_paperWith l E ρ r (ρ 1 7) hI) lk_RX6_342 (hrecv (ci := 6) B hP (hk_lt (c := 6) (show hk 0 = 6 by decide +kernel) (by decide)) (hcc6 _ _ (show hk 0 = 6 by decide +kernel)) rfl) rfl rfl hl.1 (Nat.le_of_ble_eq_true rfl) ⟨Nat.le_of_ble_eq_true rfl, Nat.le_of_ble_eq_true rfl⟩ ⟨Nat.le_of_ble_eq_true rfl, Nat.le_of_ble_eq_true rfl⟩ dX6_ahead_40) hS (fun r56 ρ57 H locs q58 hP hS => ?_)
        obtain ⟨hI, rfl⟩ := q58
        refine W.eq (g2 := F0 m 43 ls [.ref (E.2.1 + 90)]) rfl ?_
        refine lv_iload_n hx hb dX6_ahead_43 rfl (lv_at hl 2 rfl) ?_
        refine lv_topi (fun z59 ez59 => ?_)
        obtain rfl : z59 = nI j46 := ez59.trans ej46
        refine call_i (cVt (k := 90) (av := [.int (nI j46)]) (rest := []) B hP hS (d_X5_heardInTurns l E ρ57 r 90 (show hk 90 = 5 by decide +kernel) j46 (by omega) (by omega) hI) lk_RX6_216 (hrecv (ci := 5) B hP (hk_lt (c := 5) (show hk 90 = 5 by decide +kernel) (by decide)) (hcc5 _ _ (show hk 90 = 5 by decide +kernel)) rfl) rfl rfl hl.1 (Nat.le_of_ble_eq_true rfl) ⟨Nat.le_of_ble_eq_true rfl, Nat.le_of_ble_eq_true rfl⟩ ⟨Nat.le_of_ble_eq_true rfl, Nat.le_of_ble_eq_true rfl⟩ dX6_ahead_44) hS (fun r60 ρ61 H locs q62 hP hS => ?_)
        have hI := q62
        refine lv_pop hx hb dX6_ahead_47 rfl ?_
        refine lv_aload_n hx hb dX6_ahead_48 rfl (lv_at hl 0 rfl) ?_
        refine get6 B hP (show hk 0 = 6 by decide +kernel) 1 (by decide) mw_413 rfl dX6_ahead_49 ?_
        refine get5 B hP (show hk 90 = 5 by decide +kernel) 3 (by decide) mw_378 rfl dX6_ahead_52 ?_
        refine lv_iload_n hx hb dX6_ahead_55 rfl (lv_at hl 1 rfl) ?_
        refine lv_topi (fun z64 ez64 => ?_)
        obtain rfl : z64 = nI j40 := ez64.trans ej40
        refine aldNn (j := j40) B hP (show hk 94 = 11 by decide +kernel) (show hlen 94 = 2 by decide +kernel) rfl (by omega) dX6_ahead_56 ?_
        refine lv_astore_n (lv' := [(3, .ref (E.2.1 + (94 + 1 + 42 * j40))), (0, .ref (E.2.1 + 0)), (1, .int a1), (2, .int a2)]) hx hb dX6_ahead_57 rfl hl (by decide) rfl (fun ls hl => ?_)
        refine lv_aload_n hx hb dX6_ahead_58 rfl (lv_at hl 0 rfl) ?_
        refine get2 B hP (lay5n (k := 90) (n := j40) (by decide +kernel) (by omega)) 14 (by decide) mw_318 rfl dX6_ahead_59 ?_
        have i65 : iR (ρ61 (94 + 1 + 42 * j40) 14) 0 1 := CI_get hI (kind_lt (lay5n (k := 90) (n := j40) (by decide +kernel) (by omega)) (by decide)) (lay5n (k := 90) (n := j40) (by decide +kernel) (by omega)) rfl
        obtain ⟨j66, lj66, uj66, ej66⟩ := iR_nat (a := 0) (b := 1) i65
        refine lv_topi (fun z67 ez67 => ?_)
        obtain rfl : z67 = nI j66 := ez67.trans ej66
        refine lv_if_eq (tgt := 70) hx hb dX6_ahead_62 (by decide) (fun c68 => ?_) (fun c68 => ?_)
        · skip
          have n69 := (nI_eq (a := j66) (b := 0) (by omega) (by omega)).mp (show (nI j66 = nI 0) from c68)
          refine lv_aload_n hx hb dX6_ahead_70 rfl (lv_at hl 0 rfl) ?_
          refine get2 B hP (lay5n (k := 90) (n := j40) (by decide +kernel) (by omega)) 15 (by decide) mw_321 rfl dX6_ahead_71 ?_
          exact ret_i B hr hlk hP hS dX6_ahead_74 (hI)
        · skip
          have n70 := mt (nI_eq (a := j66) (b := 0) (by omega) (by omega)).mpr (show ¬ (nI j66 = nI 0) from c68)
          refine lv_bipush (v := (-2)) hx hb dX6_ahead_65 (by decide) ?_
          refine lv_goto (tgt := 74) hx hb dX6_ahead_67 (by decide) ?_
          exact ret_i B hr hlk hP hS dX6_ahead_74 (hI)
      · skip
        have n71 := (nI_eq (a := j52) (b := 0) (by omega) (by omega)).mp (show (nI j52 = nI 0) from c54)
        refine lv_iconst (v := (-1)) hx hb dX6_ahead_30 (by decide) ?_
        exact ret_i B hr hlk hP hS dX6_ahead_31 (hI)
    · skip
      refine lv_if_eq (tgt := 30) hx hb dX6_ahead_19 (by decide) (fun _ => ?_) (fun c72 => absurd rfl c72)
      refine lv_iconst (v := (-1)) hx hb dX6_ahead_30 (by decide) ?_
      exact ret_i B hr hlk hP hS dX6_ahead_31 (hI)

theorem lk_RX6_362 : LkV RX6 362 RX0 yX0_isDue cX0_isDue 2 (some .boolean) 1 := ⟨⟨mw_988, mw_683, mw_684, mw_58, mw_685⟩, by decide +kernel⟩
set_option maxHeartbeats 4000000 in
set_option maxRecDepth 100000 in
theorem d_X6_together (l : Launch) (E : hE) (ρ r : Nat → Nat → Int32) (a1 : Int32) (a2 : Int32) (a3 : Int32) (hI : CI r S0 ρ) : Met l yX6_together (.code yX6_together cX6_together 8 (some .int) :: gw_all) (rmk 3 120) (cPre E ρ [.ref (E.2.1 + 0), .int a1, .int a2, .int a3]) (cI E (fun v ρ1 => ρ = ρ1 ∧ CI r S0 ρ1)) 0 0 (hA E) := by
  refine ent (own := RX6) (by decide) rfl (Nat.le_of_ble_eq_true rfl) ?_
  intro p e s m below meth c ls B hr hlk hl hP hS
  have hx := B.1.1
  have hb := B.1.2.1
  have hown := B.1.2.2.2.1
  have hts := B.1.2.2.2.2
  have hl : lv_has ls 8 [(0, .ref (E.2.1 + 0)), (1, .int a1), (2, .int a2), (3, .int a3)] := hl
  have b42_0 : ∀ (ls : Array Slot) (H : Heap) (locs : List Loc) (d42 : Nat) (k42_4 : Nat) (k42_5 : Nat) (j42_6 : Nat), lv_has ls 8 [(0, .ref (E.2.1 + 0)), (4, .ref (E.2.1 + k42_4)), (5, .ref (E.2.1 + k42_5)), (6, .int (nI j42_6))] → WP E ρ H → va_S (hA E) s.heap H locs → 65536 - j42_6 < d42 → hk k42_4 = 1 → hk k42_5 = 1 → 0 ≤ j42_6 → j42_6 ≤ 65535 → iR a1 (0) (1) → W p l e (rmk 3 120) s m ([.ref (E.2.1 + 0), .int a1, .int a2, .int a3] : List Value).toArray below meth c H locs 0 0 (MQ below (cI E (fun v ρ1 => ρ = ρ1 ∧ CI r S0 ρ1)) ([.ref (E.2.1 + 0), .int a1, .int a2, .int a3] : List Value).toArray s 0 0 (hA E)) (F0 m 42 ls []) := by
    intro ls H locs d42
    induction d42 generalizing ls H locs with
    | zero => intro k42_4 k42_5 j42_6 hl hP hS hd42 hk42_4 hk42_5 lj42_6 uj42_6 fa1; exact absurd hd42 (Nat.not_lt_zero _)
    | succ d42 ih42 =>
      intro k42_4 k42_5 j42_6 hl hP hS hd42 hk42_4 hk42_5 lj42_6 uj42_6 fa1
      have b91_0 : ∀ (ls : Array Slot) (H : Heap) (locs : List Loc) , lv_has ls 8 [(0, .ref (E.2.1 + 0)), (4, .ref (E.2.1 + k42_4)), (5, .ref (E.2.1 + k42_5)), (6, .int (nI j42_6))] → WP E ρ H → va_S (hA E) s.heap H locs → iR a1 (0) (1) → 0 ≤ j42_6 → j42_6 ≤ 1999 → W p l e (rmk 3 120) s m ([.ref (E.2.1 + 0), .int a1, .int a2, .int a3] : List Value).toArray below meth c H locs 0 0 (MQ below (cI E (fun v ρ1 => ρ = ρ1 ∧ CI r S0 ρ1)) ([.ref (E.2.1 + 0), .int a1, .int a2, .int a3] : List Value).toArray s 0 0 (hA E)) (F0 m 91 ls []) := by
        intro ls H locs  hl hP hS fa1 tlj42_6 tuj42_6
        refine lv_iinc (v := (nI (2 + j42_6))) (lv' := [(6, .int (nI (2 + j42_6))), (0, .ref (E.2.1 + 0)), (4, .ref (E.2.1 + k42_4)), (5, .ref (E.2.1 + k42_5))]) hx hb dX6_together_91 hl (k := 3) rfl (show nI j42_6 + nI 2 = _ from (nI_add _ _).trans (congrArg nI (by omega))) (by decide) rfl (fun ls hl => ?_)
        refine lv_goto (tgt := 42) hx hb dX6_together_94 (by decide) ?_
        exact ih42 ls _ _ k42_4 k42_5 (2 + j42_6) (lv_sub hl [1, 2, 3, 0] rfl) hP hS (by omega) hk42_4 hk42_5 (by omega) (by omega) (iR_w fa1 (by decide) (by decide))
      refine lv_iload hx hb dX6_together_42 (lv_at hl 3 rfl) ?_
      refine lv_sipush (v := 2000) hx hb dX6_together_44 (by decide) ?_
      refine lv_icmp_ge (tgt := 97) hx hb dX6_together_47 (by decide) (fun c174 => ?_) (fun c174 => ?_)
      · skip
        have n175 := mt (nx_lt (a := j42_6) (b := 2000) (by omega) (by omega)).mpr (show ¬ (nI j42_6 < nI 2000) from (Int32.not_lt.mpr c174))
        refine lv_iconst (v := (-1)) hx hb dX6_together_97 (by decide) ?_
        exact ret_i B hr hlk hP hS dX6_together_98 (⟨rfl, hI⟩)
      · skip
        have n176 := (nx_lt (a := j42_6) (b := 2000) (by omega) (by omega)).mp (show (nI j42_6 < nI 2000) from (Int32.not_le.mp c174))
        refine lv_aload_n hx hb dX6_together_50 rfl (lv_at hl 0 rfl) ?_
        refine get6 B hP (show hk 0 = 6 by decide +kernel) 0 (by decide) mw_412 rfl dX6_together_51 ?_
        refine get5 B hP (show hk 1 = 5 by decide +kernel) 5 (by decide) mw_382 rfl dX6_together_54 ?_
        refine lv_iload hx hb dX6_together_57 (lv_at hl 3 rfl) ?_
        refine lv_iadd hx hb dX6_together_59 ?_
        refine lv_istore (lv' := [(7, .int ((ρ 1 5) + (nI j42_6))), (0, .ref (E.2.1 + 0)), (4, .ref (E.2.1 + k42_4)), (5, .ref (E.2.1 + k42_5)), (6, .int (nI j42_6))]) hx hb dX6_together_60 hl (by decide) rfl (fun ls hl => ?_)
        refine lv_aload hx hb dX6_together_62 (lv_at hl 2 rfl) ?_
        refine get1 B hP hk42_4 3 (by decide) mw_204 rfl dX6_together_64 ?_
        refine lv_iload hx hb dX6_together_67 (lv_at hl 0 rfl) ?_
        refine call_i (cVt (k := (k42_4 + 8)) (av := [.int ((ρ 1 5) + (nI j42_6))]) (rest := []) B hP hS (d_X0_isDue l E ρ r S0 hS0 (k42_4 + 8) (lay1 hk42_4).2.2.2 ((ρ 1 5) + (nI j42_6)) hI) lk_RX6_362 (hrecv (ci := 0) B hP (hk_lt (c := 0) (lay1 hk42_4).2.2.2 (by decide)) (hcc0 _ _ (lay1 hk42_4).2.2.2) rfl) rfl rfl hl.1 (Nat.le_of_ble_eq_true rfl) ⟨Nat.le_of_ble_eq_true rfl, Nat.le_of_ble_eq_true rfl⟩ ⟨Nat.le_of_ble_eq_true rfl, Nat.le_of_ble_eq_true rfl⟩ dX6_together_69) hS (fun r177 ρ178 H locs q179 hP hS => ?_)
        obtain ⟨rfl, hI, i180⟩ := q179
        obtain ⟨j181, lj181, uj181, ej181⟩ := iR_nat (a := 0) (b := 1) i180
        refine lv_topi (fun z182 ez182 => ?_)
        obtain rfl : z182 = nI j181 := ez182.trans ej181
        refine lv_if_eq (tgt := 91) hx hb dX6_together_72 (by decide) (fun c183 => ?_) (fun c183 => ?_)
        · skip
          have n184 := (nI_eq (a := j181) (b := 0) (by omega) (by omega)).mp (show (nI j181 = nI 0) from c183)
          exact b91_0 ls _ _  (lv_sub hl [1, 2, 3, 4] rfl) hP hS (iR_w fa1 (by decide) (by decide)) (by omega) (by omega)
        · skip
          have n185 := mt (nI_eq (a := j181) (b := 0) (by omega) (by omega)).mpr (show ¬ (nI j181 = nI 0) from c183)
          refine lv_aload hx hb dX6_together_75 (lv_at hl 3 rfl) ?_
          refine get1 B hP hk42_5 3 (by decide) mw_204 rfl dX6_together_77 ?_
          refine lv_iload hx hb dX6_together_80 (lv_at hl 0 rfl) ?_
          refine call_i (cVt (k := (k42_5 + 8)) (av := [.int ((ρ 1 5) + (nI j42_6))]) (rest := []) B hP hS (d_X0_isDue l E ρ r S0 hS0 (k42_5 + 8) (lay1 hk42_5).2.2.2 ((ρ 1 5) + (nI j42_6)) hI) lk_RX6_362 (hrecv (ci := 0) B hP (hk_lt (c := 0) (lay1 hk42_5).2.2.2 (by decide)) (hcc0 _ _ (lay1 hk42_5).2.2.2) rfl) rfl rfl hl.1 (Nat.le_of_ble_eq_true rfl) ⟨Nat.le_of_ble_eq_true rfl, Nat.le_of_ble_eq_true rfl⟩ ⟨Nat.le_of_ble_eq_true rfl, Nat.le_of_ble_eq_true rfl⟩ dX6_together_82) hS (fun r186 ρ187 H locs q188 hP hS => ?_)
          obtain ⟨rfl, hI, i189⟩ := q188
          obtain ⟨j190, lj190, uj190, ej190⟩ := iR_nat (a := 0) (b := 1) i189
          refine lv_topi (fun z191 ez191 => ?_)
          obtain rfl : z191 = nI j190 := ez191.trans ej190
          refine lv_if_eq (tgt := 91) hx hb dX6_together_85 (by decide) (fun c192 => ?_) (fun c192 => ?_)
          · skip
            have n193 := (nI_eq (a := j190) (b := 0) (by omega) (by omega)).mp (show (nI j190 = nI 0) from c192)
            exact b91_0 ls _ _  (lv_sub hl [1, 2, 3, 4] rfl) hP hS (iR_w fa1 (by decide) (by decide)) (by omega) (by omega)
          · skip
            have n194 := mt (nI_eq (a := j190) (b := 0) (by omega) (by omega)).mpr (show ¬ (nI j190 = nI 0) from c192)
            refine lv_iload hx hb dX6_together_88 (lv_at hl 0 rfl) ?_
            exact ret_i B hr hlk hP hS dX6_together_90 (⟨rfl, hI⟩)
  refine lv_aload_n hx hb dX6_together_0 rfl (lv_at hl 0 rfl) ?_
  refine get6 B hP (show hk 0 = 6 by decide +kernel) 0 (by decide) mw_412 rfl dX6_together_1 ?_
  refine lv_iload_n hx hb dX6_together_4 rfl (lv_at hl 1 rfl) ?_
  refine lv_iload_n hx hb dX6_together_5 rfl (lv_at hl 2 rfl) ?_
  refine call_q (cVt (k := 1) (av := [.int a1, .int a2]) (rest := []) B hP hS (d_X5_linkAt l E ρ r S0 hS0 1 (show hk 1 = 5 by decide +kernel) a1 a2 hI) lk_RX6_132 (hrecv (ci := 5) B hP (hk_lt (c := 5) (show hk 1 = 5 by decide +kernel) (by decide)) (hcc5 _ _ (show hk 1 = 5 by decide +kernel)) rfl) rfl rfl hl.1 (Nat.le_of_ble_eq_true rfl) ⟨Nat.le_of_ble_eq_true rfl, Nat.le_of_ble_eq_true rfl⟩ ⟨Nat.le_of_ble_eq_true rfl, Nat.le_of_ble_eq_true rfl⟩ dX6_together_6) hS (fun r195 ρ196 H locs q197 hP hS => ?_)
  obtain ⟨rfl, hI, q197⟩ := q197
  rcases q197 with rfl | ⟨j198, k199, rfl, hk199, ej198, uj198⟩
  · skip
    refine W.eq (g2 := F0 m 9 ls [.null]) rfl ?_
    refine lv_astoreN (lv' := [(4, .null), (0, .ref (E.2.1 + 0)), (1, .int a1), (2, .int a2), (3, .int a3)]) hx hb dX6_together_9 hl (by decide) rfl (fun ls hl => ?_)
    refine lv_aload_n hx hb dX6_together_11 rfl (lv_at hl 1 rfl) ?_
    refine get6 B hP (show hk 0 = 6 by decide +kernel) 0 (by decide) mw_412 rfl dX6_together_12 ?_
    refine lv_iload_n hx hb dX6_together_15 rfl (lv_at hl 2 rfl) ?_
    refine lv_iload_n hx hb dX6_together_16 rfl (lv_at hl 4 rfl) ?_
    refine call_q (cVt (k := 1) (av := [.int a1, .int a3]) (rest := []) B hP hS (d_X5_linkAt l E ρ r S0 hS0 1 (show hk 1 = 5 by decide +kernel) a1 a3 hI) lk_RX6_132 (hrecv (ci := 5) B hP (hk_lt (c := 5) (show hk 1 = 5 by decide +kernel) (by decide)) (hcc5 _ _ (show hk 1 = 5 by decide +kernel)) rfl) rfl rfl hl.1 (Nat.le_of_ble_eq_true rfl) ⟨Nat.le_of_ble_eq_true rfl, Nat.le_of_ble_eq_true rfl⟩ ⟨Nat.le_of_ble_eq_true rfl, Nat.le_of_ble_eq_true rfl⟩ dX6_together_17) hS (fun r200 ρ201 H locs q202 hP hS => ?_)
    obtain ⟨rfl, hI, q202⟩ := q202
    rcases q202 with rfl | ⟨j203, k204, rfl, hk204, ej203, uj203⟩
    · skip
      refine W.eq (g2 := F0 m 20 ls [.null]) rfl ?_
      refine lv_astoreN (lv' := [(5, .null), (4, .null), (0, .ref (E.2.1 + 0)), (1, .int a1), (2, .int a2), (3, .int a3)]) hx hb dX6_together_20 hl (by decide) rfl (fun ls hl => ?_)
      refine lv_aloadN hx hb dX6_together_22 (lv_at hl 1 rfl) ?_
      refine lv_ifnullN (tgt := 37) hx hb dX6_together_24 (by decide) ?_
      refine lv_iconst (v := (-1)) hx hb dX6_together_37 (by decide) ?_
      exact ret_i B hr hlk hP hS dX6_together_38 (⟨rfl, hI⟩)
    · skip
      refine W.eq (g2 := F0 m 20 ls [.ref (E.2.1 + k204)]) rfl ?_
      refine lv_astore (lv' := [(5, .ref (E.2.1 + k204)), (4, .null), (0, .ref (E.2.1 + 0)), (1, .int a1), (2, .int a2), (3, .int a3)]) hx hb dX6_together_20 hl (by decide) rfl (fun ls hl => ?_)
      refine lv_aloadN hx hb dX6_together_22 (lv_at hl 1 rfl) ?_
      refine lv_ifnullN (tgt := 37) hx hb dX6_together_24 (by decide) ?_
      refine lv_iconst (v := (-1)) hx hb dX6_together_37 (by decide) ?_
      exact ret_i B hr hlk hP hS dX6_together_38 (⟨rfl, hI⟩)
  · skip
    refine W.eq (g2 := F0 m 9 ls [.ref (E.2.1 + k199)]) rfl ?_
    refine lv_astore (lv' := [(4, .ref (E.2.1 + k199)), (0, .ref (E.2.1 + 0)), (1, .int a1), (2, .int a2), (3, .int a3)]) hx hb dX6_together_9 hl (by decide) rfl (fun ls hl => ?_)
    refine lv_aload_n hx hb dX6_together_11 rfl (lv_at hl 1 rfl) ?_
    refine get6 B hP (show hk 0 = 6 by decide +kernel) 0 (by decide) mw_412 rfl dX6_together_12 ?_
    refine lv_iload_n hx hb dX6_together_15 rfl (lv_at hl 2 rfl) ?_
    refine lv_topi (fun z205 ez205 => ?_)
    obtain rfl : z205 = nI j198 := ez205.trans ej198
    refine lv_iload_n hx hb dX6_together_16 rfl (lv_at hl 4 rfl) ?_
    refine call_q (cVt (k := 1) (av := [.int (nI j198), .int a3]) (rest := []) B hP hS (d_X5_linkAt l E ρ r S0 hS0 1 (show hk 1 = 5 by decide +kernel) (nI j198) a3 hI) lk_RX6_132 (hrecv (ci := 5) B hP (hk_lt (c := 5) (show hk 1 = 5 by decide +kernel) (by decide)) (hcc5 _ _ (show hk 1 = 5 by decide +kernel)) rfl) rfl rfl hl.1 (Nat.le_of_ble_eq_true rfl) ⟨Nat.le_of_ble_eq_true rfl, Nat.le_of_ble_eq_true rfl⟩ ⟨Nat.le_of_ble_eq_true rfl, Nat.le_of_ble_eq_true rfl⟩ dX6_together_17) hS (fun r206 ρ207 H locs q208 hP hS => ?_)
    obtain ⟨rfl, hI, q208⟩ := q208
    rcases q208 with rfl | ⟨j209, k210, rfl, hk210, ej209, uj209⟩
    · skip
      refine W.eq (g2 := F0 m 20 ls [.null]) rfl ?_
      refine lv_astoreN (lv' := [(5, .null), (4, .ref (E.2.1 + k199)), (0, .ref (E.2.1 + 0)), (1, .int a1), (2, .int a2), (3, .int a3)]) hx hb dX6_together_20 hl (by decide) rfl (fun ls hl => ?_)
      refine lv_aload hx hb dX6_together_22 (lv_at hl 1 rfl) ?_
      refine lv_ifnull hx hb dX6_together_24 ?_
      refine lv_aloadN hx hb dX6_together_27 (lv_at hl 0 rfl) ?_
      refine lv_ifnullN (tgt := 37) hx hb dX6_together_29 (by decide) ?_
      refine lv_iconst (v := (-1)) hx hb dX6_together_37 (by decide) ?_
      exact ret_i B hr hlk hP hS dX6_together_38 (⟨rfl, hI⟩)
    · skip
      refine W.eq (g2 := F0 m 20 ls [.ref (E.2.1 + k210)]) rfl ?_
      refine lv_astore (lv' := [(5, .ref (E.2.1 + k210)), (4, .ref (E.2.1 + k199)), (0, .ref (E.2.1 + 0)), (1, .int a1), (2, .int a2), (3, .int a3)]) hx hb dX6_together_20 hl (by decide) rfl (fun ls hl => ?_)
      refine lv_aload hx hb dX6_together_22 (lv_at hl 1 rfl) ?_
      refine lv_ifnull hx hb dX6_together_24 ?_
      refine lv_aload hx hb dX6_together_27 (lv_at hl 0 rfl) ?_
      refine lv_ifnull hx hb dX6_together_29 ?_
      refine lv_iload_n hx hb dX6_together_32 rfl (lv_at hl 4 rfl) ?_
      refine lv_iload_n hx hb dX6_together_33 rfl (lv_at hl 5 rfl) ?_
      refine lv_icmp_ne (tgt := 39) hx hb dX6_together_34 (by decide) (fun c211 => ?_) (fun c211 => ?_)
      · skip
        refine lv_iconst (v := 0) hx hb dX6_together_39 (by decide) ?_
        refine lv_istore (lv' := [(6, .int 0), (5, .ref (E.2.1 + k210)), (4, .ref (E.2.1 + k199)), (0, .ref (E.2.1 + 0)), (1, .int a1), (2, .int a2), (3, .int a3)]) hx hb dX6_together_40 hl (by decide) rfl (fun ls hl => ?_)
        exact b42_0 ls _ _ _ k199 k210 0 (lv_sub hl [3, 2, 1, 0] rfl) hP hS (Nat.lt_succ_self _) hk199 hk210 (by omega) (by omega) (iR_w (show iR a1 0 1 from by rw [ej198]; exact nI_iR (by omega) (by omega) (by omega)) (by decide) (by decide))
      · skip
        refine lv_iconst (v := (-1)) hx hb dX6_together_37 (by decide) ?_
        exact ret_i B hr hlk hP hS dX6_together_38 (⟨rfl, hI⟩)

theorem lk_RX6_365 : LkV RX6 365 RX2 yX2_rankOf cX2_rankOf 8 (some .int) 1 := ⟨⟨mw_993, mw_994, mw_995, mw_54, mw_996⟩, by decide +kernel⟩
set_option maxHeartbeats 4000000 in
set_option maxRecDepth 100000 in
theorem d_X6_ranked (l : Launch) (E : hE) (ρ r : Nat → Nat → Int32) (a1 : Int32) (a2 : Int32) (hI : CI r S0 ρ) : Met l yX6_ranked (.code yX6_ranked cX6_ranked 5 (some .int) :: gw_all) (rmk 2 80) (cPre E ρ [.ref (E.2.1 + 0), .int a1, .int a2]) (cI E (fun v ρ1 => ρ = ρ1 ∧ CI r S0 ρ1)) 0 0 (hA E) := by
  refine ent (own := RX6) (by decide) rfl (Nat.le_of_ble_eq_true rfl) ?_
  intro p e s m below meth c ls B hr hlk hl hP hS
  have hx := B.1.1
  have hb := B.1.2.1
  have hown := B.1.2.2.2.1
  have hts := B.1.2.2.2.2
  have hl : lv_has ls 5 [(0, .ref (E.2.1 + 0)), (1, .int a1), (2, .int a2)] := hl
  have b28_0 : ∀ (ls : Array Slot) (H : Heap) (locs : List Loc) (d28 : Nat) (k28_3 : Nat) (j28_4 : Nat), lv_has ls 5 [(2, .int a2), (3, .ref (E.2.1 + k28_3)), (4, .int (nI j28_4))] → WP E ρ H → va_S (hA E) s.heap H locs → 24 - j28_4 < d28 → hk k28_3 = 2 → 0 ≤ j28_4 → j28_4 ≤ 23 → iR a1 (0) (1) → iR a2 (0) (22) → W p l e (rmk 2 80) s m ([.ref (E.2.1 + 0), .int a1, .int a2] : List Value).toArray below meth c H locs 0 0 (MQ below (cI E (fun v ρ1 => ρ = ρ1 ∧ CI r S0 ρ1)) ([.ref (E.2.1 + 0), .int a1, .int a2] : List Value).toArray s 0 0 (hA E)) (F0 m 28 ls []) := by
    intro ls H locs d28
    induction d28 generalizing ls H locs with
    | zero => intro k28_3 j28_4 hl hP hS hd28 hk28_3 lj28_4 uj28_4 fa1 fa2; exact absurd hd28 (Nat.not_lt_zero _)
    | succ d28 ih28 =>
      intro k28_3 j28_4 hl hP hS hd28 hk28_3 lj28_4 uj28_4 fa1 fa2
      have b58_0 : ∀ (ls : Array Slot) (H : Heap) (locs : List Loc) , lv_has ls 5 [(2, .int a2), (3, .ref (E.2.1 + k28_3)), (4, .int (nI j28_4))] → WP E ρ H → va_S (hA E) s.heap H locs → iR (ρ (k28_3 + 3) j28_4) (-2147483648) (2147483647) → iR a1 (0) (1) → iR a2 (0) (22) → 0 ≤ j28_4 → j28_4 ≤ 22 → W p l e (rmk 2 80) s m ([.ref (E.2.1 + 0), .int a1, .int a2] : List Value).toArray below meth c H locs 0 0 (MQ below (cI E (fun v ρ1 => ρ = ρ1 ∧ CI r S0 ρ1)) ([.ref (E.2.1 + 0), .int a1, .int a2] : List Value).toArray s 0 0 (hA E)) (F0 m 58 ls []) := by
        intro ls H locs  hl hP hS f_ρ__k28_3___3__j28_4_ fa1 fa2 tlj28_4 tuj28_4
        refine lv_iinc (v := (nI (1 + j28_4))) (lv' := [(4, .int (nI (1 + j28_4))), (2, .int a2), (3, .ref (E.2.1 + k28_3))]) hx hb dX6_ranked_58 hl (k := 2) rfl (show nI j28_4 + nI 1 = _ from (nI_add _ _).trans (congrArg nI (by omega))) (by decide) rfl (fun ls hl => ?_)
        refine lv_goto (tgt := 28) hx hb dX6_ranked_61 (by decide) ?_
        exact ih28 ls _ _ k28_3 (1 + j28_4) (lv_sub hl [1, 2, 0] rfl) hP hS (by omega) hk28_3 (by omega) (by omega) (iR_w fa1 (by decide) (by decide)) (iR_w fa2 (by decide) (by decide))
      refine lv_iload hx hb dX6_ranked_28 (lv_at hl 2 rfl) ?_
      refine lv_bipush (v := 23) hx hb dX6_ranked_30 (by decide) ?_
      refine lv_icmp_ge (tgt := 64) hx hb dX6_ranked_32 (by decide) (fun c121 => ?_) (fun c121 => ?_)
      · skip
        have n122 := mt (nx_lt (a := j28_4) (b := 23) (by omega) (by omega)).mpr (show ¬ (nI j28_4 < nI 23) from (Int32.not_lt.mpr c121))
        refine lv_iconst (v := (-1)) hx hb dX6_ranked_64 (by decide) ?_
        exact ret_i B hr hlk hP hS dX6_ranked_65 (⟨rfl, hI⟩)
      · skip
        have n123 := (nx_lt (a := j28_4) (b := 23) (by omega) (by omega)).mp (show (nI j28_4 < nI 23) from (Int32.not_le.mp c121))
        refine lv_aload_n hx hb dX6_ranked_35 rfl (lv_at hl 1 rfl) ?_
        refine get2 B hP hk28_3 2 (by decide) mw_288 rfl dX6_ranked_36 ?_
        refine lv_iload hx hb dX6_ranked_39 (lv_at hl 2 rfl) ?_
        refine aldn (n := 23) (j := j28_4) B hP (lay2 hk28_3).2.2.2.1 (lay2 hk28_3).2.2.2.2.1 rfl (by omega) (by decide) dX6_ranked_41 ?_
        refine lv_if_le (tgt := 58) hx hb dX6_ranked_42 (by decide) (fun c124 => ?_) (fun c124 => ?_)
        · skip
          have i125 : iR (ρ (k28_3 + 3) j28_4) (-2147483648) (0) := (iR_geR (show iR 0 (0) (0) from ⟨by decide, by decide⟩) (iR_any (ρ (k28_3 + 3) j28_4)) (Int32.not_lt.mpr c124) (by decide))
          exact b58_0 ls _ _  (lv_sub hl [0, 1, 2] rfl) hP hS (iR_w i125 (by decide) (by decide)) (iR_w fa1 (by decide) (by decide)) (iR_w fa2 (by decide) (by decide)) (by omega) (by omega)
        · skip
          have i126 : iR (ρ (k28_3 + 3) j28_4) (1) (2147483647) := (iR_ltR (show iR 0 (0) (0) from ⟨by decide, by decide⟩) (iR_any (ρ (k28_3 + 3) j28_4)) (Int32.not_le.mp c124) (by decide))
          refine lv_aload_n hx hb dX6_ranked_45 rfl (lv_at hl 1 rfl) ?_
          refine lv_iload hx hb dX6_ranked_46 (lv_at hl 2 rfl) ?_
          refine call_i (cVt (k := k28_3) (av := [.int (nI j28_4)]) (rest := []) B hP hS (d_X2_rankOf l E ρ r S0 hS0 k28_3 hk28_3 j28_4 (by omega) (by omega) hI) lk_RX6_365 (hrecv (ci := 2) B hP (hk_lt (c := 2) hk28_3 (by decide)) (hcc2 _ _ hk28_3) rfl) rfl rfl hl.1 (Nat.le_of_ble_eq_true rfl) ⟨Nat.le_of_ble_eq_true rfl, Nat.le_of_ble_eq_true rfl⟩ ⟨Nat.le_of_ble_eq_true rfl, Nat.le_of_ble_eq_true rfl⟩ dX6_ranked_48) hS (fun r127 ρ128 H locs q129 hP hS => ?_)
          obtain ⟨rfl, hI⟩ := q129
          refine lv_iload_n hx hb dX6_ranked_51 rfl (lv_at hl 0 rfl) ?_
          obtain ⟨j131, lj131, uj131, ej131⟩ := iR_nat (a := 0) (b := 22) fa2
          refine lv_topi (fun z132 ez132 => ?_)
          obtain rfl : z132 = nI j131 := ez132.trans ej131
          refine lv_icmp_ne (tgt := 58) hx hb dX6_ranked_52 (by decide) (fun c133 => ?_) (fun c133 => ?_)
          · skip
            exact b58_0 ls _ _  (lv_sub hl [0, 1, 2] rfl) hP hS (iR_w i126 (by decide) (by decide)) (iR_w fa1 (by decide) (by decide)) (iR_w fa2 (by decide) (by decide)) (by omega) (by omega)
          · skip
            have i134 : iR r127 (0) (22) := (by rw [c133]; exact (nI_iR (j := j131) (a := 0) (b := 22) (by omega) (by omega) (by omega)))
            refine lv_iload hx hb dX6_ranked_55 (lv_at hl 2 rfl) ?_
            exact ret_i B hr hlk hP hS dX6_ranked_57 (⟨rfl, hI⟩)
  refine lv_aload_n hx hb dX6_ranked_0 rfl (lv_at hl 0 rfl) ?_
  refine get6 B hP (show hk 0 = 6 by decide +kernel) 0 (by decide) mw_412 rfl dX6_ranked_1 ?_
  refine lv_iload_n hx hb dX6_ranked_4 rfl (lv_at hl 1 rfl) ?_
  refine call_q (cVt (k := 1) (av := [.int a1]) (rest := []) B hP hS (d_X5_netAt l E ρ r S0 hS0 1 (show hk 1 = 5 by decide +kernel) a1 hI) lk_RX6_95 (hrecv (ci := 5) B hP (hk_lt (c := 5) (show hk 1 = 5 by decide +kernel) (by decide)) (hcc5 _ _ (show hk 1 = 5 by decide +kernel)) rfl) rfl rfl hl.1 (Nat.le_of_ble_eq_true rfl) ⟨Nat.le_of_ble_eq_true rfl, Nat.le_of_ble_eq_true rfl⟩ ⟨Nat.le_of_ble_eq_true rfl, Nat.le_of_ble_eq_true rfl⟩ dX6_ranked_5) hS (fun r135 ρ136 H locs q137 hP hS => ?_)
  obtain ⟨rfl, hI, q137⟩ := q137
  rcases q137 with rfl | ⟨j138, rfl, ej138, uj138⟩
  · skip
    refine W.eq (g2 := F0 m 8 ls [.null]) rfl ?_
    refine lv_astore_nN (lv' := [(3, .null), (0, .ref (E.2.1 + 0)), (1, .int a1), (2, .int a2)]) hx hb dX6_ranked_8 rfl hl (by decide) rfl (fun ls hl => ?_)
    refine lv_aload_nN hx hb dX6_ranked_9 rfl (lv_at hl 0 rfl) ?_
    refine lv_ifnullN (tgt := 23) hx hb dX6_ranked_10 (by decide) ?_
    refine lv_iconst (v := (-1)) hx hb dX6_ranked_23 (by decide) ?_
    exact ret_i B hr hlk hP hS dX6_ranked_24 (⟨rfl, hI⟩)
  · skip
    refine W.eq (g2 := F0 m 8 ls [.ref (E.2.1 + (5 + 1 + 42 * j138))]) rfl ?_
    refine lv_astore_n (lv' := [(3, .ref (E.2.1 + (5 + 1 + 42 * j138))), (0, .ref (E.2.1 + 0)), (1, .int a1), (2, .int a2)]) hx hb dX6_ranked_8 rfl hl (by decide) rfl (fun ls hl => ?_)
    refine lv_aload_n hx hb dX6_ranked_9 rfl (lv_at hl 0 rfl) ?_
    refine lv_ifnull hx hb dX6_ranked_10 ?_
    refine lv_iload_n hx hb dX6_ranked_13 rfl (lv_at hl 3 rfl) ?_
    refine lv_iconst (v := 0) hx hb dX6_ranked_14 (by decide) ?_
    refine lv_bipush (v := 22) hx hb dX6_ranked_15 (by decide) ?_
    refine call_i (cS (av := [.int a2, .int 0, .int 22]) (rest := []) B hP hS (c_isWithin l E ρ a2 0 22 0 22 (by decide) (by decide)) lk_RX6_54 rfl rfl hl.1 (Nat.le_of_ble_eq_true rfl) ⟨Nat.le_of_ble_eq_true rfl, Nat.le_of_ble_eq_true rfl⟩ ⟨Nat.le_of_ble_eq_true rfl, Nat.le_of_ble_eq_true rfl⟩ dX6_ranked_17) hS (fun r140 ρ141 H locs q142 hP hS => ?_)
    obtain ⟨rfl, q142⟩ := q142
    rcases q142 with ⟨rfl, q142⟩ | ⟨rfl, q142⟩
    · skip
      refine lv_if_ne (tgt := 25) hx hb dX6_ranked_20 (by decide) (fun _ => ?_) (fun c143 => absurd c143 (iR_ne (show iR 1 (1) (1) from ⟨by decide, by decide⟩) (show iR 0 (0) (0) from ⟨by decide, by decide⟩) (by decide)))
      refine lv_iconst (v := 0) hx hb dX6_ranked_25 (by decide) ?_
      refine lv_istore (lv' := [(4, .int 0), (3, .ref (E.2.1 + (5 + 1 + 42 * j138))), (0, .ref (E.2.1 + 0)), (1, .int a1), (2, .int a2)]) hx hb dX6_ranked_26 hl (by decide) rfl (fun ls hl => ?_)
      exact b28_0 ls _ _ _ (5 + 1 + 42 * j138) 0 (lv_sub hl [4, 1, 0] rfl) hP hS (Nat.lt_succ_self _) (lay5n (k := 1) (n := j138) (by decide +kernel) uj138) (by omega) (by omega) (iR_w (show iR a1 0 1 from by rw [ej138]; exact nI_iR (by omega) (by omega) (by omega)) (by decide) (by decide)) (iR_w q142 (by decide) (by decide))
    · skip
      refine lv_if_ne (tgt := 25) hx hb dX6_ranked_20 (by decide) (fun c144 => absurd rfl c144) (fun _ => ?_)
      refine lv_iconst (v := (-1)) hx hb dX6_ranked_23 (by decide) ?_
      exact ret_i B hr hlk hP hS dX6_ranked_24 (⟨rfl, hI⟩)

set_option maxHeartbeats 4000000 in
set_option maxRecDepth 100000 in
theorem d_X6_quiet (l : Launch) (E : hE) (ρ r : Nat → Nat → Int32) (a1 : Int32) (a2 : Int32) (hI : CI r S0 ρ) : Met l yX6_quiet (.code yX6_quiet cX6_quiet 6 (some .int) :: gw_all) (rmk 2 80) (cPre E ρ [.ref (E.2.1 + 0), .int a1, .int a2]) (cI E (fun v ρ1 => ρ = ρ1 ∧ CI r S0 ρ1)) 0 0 (hA E) := by
  refine ent (own := RX6) (by decide) rfl (Nat.le_of_ble_eq_true rfl) ?_
  intro p e s m below meth c ls B hr hlk hl hP hS
  have hx := B.1.1
  have hb := B.1.2.1
  have hown := B.1.2.2.2.1
  have hts := B.1.2.2.2.2
  have hl : lv_has ls 6 [(0, .ref (E.2.1 + 0)), (1, .int a1), (2, .int a2)] := hl
  have b32_0 : ∀ (ls : Array Slot) (H : Heap) (locs : List Loc) (d32 : Nat) (k32_3 : Nat) (x32_4 : Int32) (j32_5 : Nat), lv_has ls 6 [(0, .ref (E.2.1 + 0)), (2, .int a2), (3, .ref (E.2.1 + k32_3)), (4, .int x32_4), (5, .int (nI j32_5))] → WP E ρ H → va_S (hA E) s.heap H locs → 5 - j32_5 < d32 → hk k32_3 = 2 → iR x32_4 (-2147483648) (2147483647) → 0 ≤ j32_5 → j32_5 ≤ 4 → iR a1 (0) (1) → iR a2 (0) (9999) → W p l e (rmk 2 80) s m ([.ref (E.2.1 + 0), .int a1, .int a2] : List Value).toArray below meth c H locs 0 0 (MQ below (cI E (fun v ρ1 => ρ = ρ1 ∧ CI r S0 ρ1)) ([.ref (E.2.1 + 0), .int a1, .int a2] : List Value).toArray s 0 0 (hA E)) (F0 m 32 ls []) := by
    intro ls H locs d32
    induction d32 generalizing ls H locs with
    | zero => intro k32_3 x32_4 j32_5 hl hP hS hd32 hk32_3 hx32_4 lj32_5 uj32_5 fa1 fa2; exact absurd hd32 (Nat.not_lt_zero _)
    | succ d32 ih32 =>
      intro k32_3 x32_4 j32_5 hl hP hS hd32 hk32_3 hx32_4 lj32_5 uj32_5 fa1 fa2
      have b80_0 : ∀ (ls : Array Slot) (H : Heap) (locs : List Loc) (x80_4 : Int32), lv_has ls 6 [(0, .ref (E.2.1 + 0)), (2, .int a2), (3, .ref (E.2.1 + k32_3)), (4, .int x80_4), (5, .int (nI j32_5))] → WP E ρ H → va_S (hA E) s.heap H locs → iR x80_4 (-2147483648) (2147483647) → iR (ρ k32_3 8) (0) (4) → iR a1 (0) (1) → iR a2 (0) (9999) → 0 ≤ j32_5 → j32_5 ≤ 3 → W p l e (rmk 2 80) s m ([.ref (E.2.1 + 0), .int a1, .int a2] : List Value).toArray below meth c H locs 0 0 (MQ below (cI E (fun v ρ1 => ρ = ρ1 ∧ CI r S0 ρ1)) ([.ref (E.2.1 + 0), .int a1, .int a2] : List Value).toArray s 0 0 (hA E)) (F0 m 80 ls []) := by
        intro ls H locs x80_4 hl hP hS hx80_4 f_ρ_k32_3_8_ fa1 fa2 tlj32_5 tuj32_5
        refine lv_iinc (v := (nI (1 + j32_5))) (lv' := [(5, .int (nI (1 + j32_5))), (0, .ref (E.2.1 + 0)), (2, .int a2), (3, .ref (E.2.1 + k32_3)), (4, .int x80_4)]) hx hb dX6_quiet_80 hl (k := 4) rfl (show nI j32_5 + nI 1 = _ from (nI_add _ _).trans (congrArg nI (by omega))) (by decide) rfl (fun ls hl => ?_)
        refine lv_goto (tgt := 32) hx hb dX6_quiet_83 (by decide) ?_
        exact ih32 ls _ _ k32_3 (x80_4 : Int32) (1 + j32_5) (lv_sub hl [1, 2, 3, 4, 0] rfl) hP hS (by omega) hk32_3 (iR_w hx80_4 (by decide) (by decide)) (by omega) (by omega) (iR_w fa1 (by decide) (by decide)) (iR_w fa2 (by decide) (by decide))
      refine lv_iload hx hb dX6_quiet_32 (lv_at hl 4 rfl) ?_
      refine lv_aload_n hx hb dX6_quiet_34 rfl (lv_at hl 2 rfl) ?_
      refine get2 B hP hk32_3 8 (by decide) mw_304 rfl dX6_quiet_35 ?_
      have i78 : iR (ρ k32_3 8) 0 4 := CI_get hI (kind_lt hk32_3 (by decide)) hk32_3 rfl
      obtain ⟨j79, lj79, uj79, ej79⟩ := iR_nat (a := 0) (b := 4) i78
      refine lv_topi (fun z80 ez80 => ?_)
      obtain rfl : z80 = nI j79 := ez80.trans ej79
      refine lv_icmp_ge (tgt := 86) hx hb dX6_quiet_38 (by decide) (fun c81 => ?_) (fun c81 => ?_)
      · skip
        have n82 := mt (nx_lt (a := j32_5) (b := j79) (by omega) (by omega)).mpr (show ¬ (nI j32_5 < nI j79) from (Int32.not_lt.mpr c81))
        refine lv_iload hx hb dX6_quiet_86 (lv_at hl 3 rfl) ?_
        exact ret_i B hr hlk hP hS dX6_quiet_88 (⟨rfl, hI⟩)
      · skip
        have n83 := (nx_lt (a := j32_5) (b := j79) (by omega) (by omega)).mp (show (nI j32_5 < nI j79) from (Int32.not_le.mp c81))
        refine lv_iload hx hb dX6_quiet_41 (lv_at hl 4 rfl) ?_
        refine lv_iconst (v := 4) hx hb dX6_quiet_43 (by decide) ?_
        refine lv_icmp_ge (tgt := 86) hx hb dX6_quiet_44 (by decide) (fun c84 => absurd c84 (iR_nle (show iR 4 (4) (4) from ⟨by decide, by decide⟩) (nI_iR (j := j32_5) (a := 0) (b := 3) (by omega) (by omega) (by omega)) (by decide))) (fun _ => ?_)
        refine lv_aload_n hx hb dX6_quiet_47 rfl (lv_at hl 0 rfl) ?_
        refine get6 B hP (show hk 0 = 6 by decide +kernel) 0 (by decide) mw_412 rfl dX6_quiet_48 ?_
        refine get5 B hP (show hk 1 = 5 by decide +kernel) 5 (by decide) mw_382 rfl dX6_quiet_51 ?_
        refine lv_aload_n hx hb dX6_quiet_54 rfl (lv_at hl 2 rfl) ?_
        refine get2 B hP hk32_3 4 (by decide) mw_293 rfl dX6_quiet_55 ?_
        refine lv_iload hx hb dX6_quiet_58 (lv_at hl 4 rfl) ?_
        obtain ⟨k85, ek85, hk85⟩ := CI_link hI (lay2 hk32_3).2.2.2.2.2.2.2.1 (show j32_5 < 4 from (by omega))
        refine aldLn B hP (lay2 hk32_3).2.2.2.2.2.2.2.1 (lay2 hk32_3).2.2.2.2.2.2.2.2.1 rfl (by omega) ek85 hk85 dX6_quiet_60 ?_
        refine get1 B hP hk85 16 (by decide) mw_241 rfl dX6_quiet_61 ?_
        refine lv_isub hx hb dX6_quiet_64 ?_
        refine lv_iconst (v := 2) hx hb dX6_quiet_65 (by decide) ?_
        refine lv_idiv hx hb dX6_quiet_66 (by decide) ?_
        refine lv_iload_n hx hb dX6_quiet_67 rfl (lv_at hl 1 rfl) ?_
        obtain ⟨j86, lj86, uj86, ej86⟩ := iR_nat (a := 0) (b := 9999) fa2
        refine lv_topi (fun z87 ez87 => ?_)
        obtain rfl : z87 = nI j86 := ez87.trans ej86
        refine lv_icmp_lt (tgt := 80) hx hb dX6_quiet_68 (by decide) (fun c88 => ?_) (fun c88 => ?_)
        · skip
          have i89 : iR (((ρ 1 5) - (ρ k85 16)) / 2) (-2147483648) (9998) := (iR_ltL (iR_any (((ρ 1 5) - (ρ k85 16)) / 2)) (nI_iR (j := j86) (a := 0) (b := 9999) (by omega) (by omega) (by omega)) c88 (by decide))
          exact b80_0 ls _ _ (x32_4 : Int32) (lv_sub hl [0, 1, 2, 3, 4] rfl) hP hS (iR_w hx32_4 (by decide) (by decide)) (iR_w i78 (by decide) (by decide)) (iR_w fa1 (by decide) (by decide)) (iR_w fa2 (by decide) (by decide)) (by omega) (by omega)
        · skip
          have i90 : iR (((ρ 1 5) - (ρ k85 16)) / 2) (0) (2147483647) := (iR_geL (iR_any (((ρ 1 5) - (ρ k85 16)) / 2)) (nI_iR (j := j86) (a := 0) (b := 9999) (by omega) (by omega) (by omega)) c88 (by decide))
          refine lv_iload hx hb dX6_quiet_71 (lv_at hl 3 rfl) ?_
          refine lv_iconst (v := 1) hx hb dX6_quiet_73 (by decide) ?_
          refine lv_iload hx hb dX6_quiet_74 (lv_at hl 4 rfl) ?_
          refine lv_ishl hx hb dX6_quiet_76 ?_
          refine lv_ior hx hb dX6_quiet_77 ?_
          refine lv_istore (lv' := [(4, .int (x32_4 ||| (1 <<< (((nI j32_5) : Int32) &&& 31)))), (0, .ref (E.2.1 + 0)), (2, .int a2), (3, .ref (E.2.1 + k32_3)), (5, .int (nI j32_5))]) hx hb dX6_quiet_78 hl (by decide) rfl (fun ls hl => ?_)
          exact b80_0 ls _ _ ((x32_4 ||| (1 <<< (((nI j32_5) : Int32) &&& 31))) : Int32) (lv_sub hl [1, 2, 3, 0, 4] rfl) hP hS (iR_w (iR_any (x32_4 ||| (1 <<< (((nI j32_5) : Int32) &&& 31)))) (by decide) (by decide)) (iR_w i78 (by decide) (by decide)) (iR_w fa1 (by decide) (by decide)) (iR_w fa2 (by decide) (by decide)) (by omega) (by omega)
  refine lv_aload_n hx hb dX6_quiet_0 rfl (lv_at hl 0 rfl) ?_
  refine get6 B hP (show hk 0 = 6 by decide +kernel) 0 (by decide) mw_412 rfl dX6_quiet_1 ?_
  refine lv_iload_n hx hb dX6_quiet_4 rfl (lv_at hl 1 rfl) ?_
  refine call_q (cVt (k := 1) (av := [.int a1]) (rest := []) B hP hS (d_X5_netAt l E ρ r S0 hS0 1 (show hk 1 = 5 by decide +kernel) a1 hI) lk_RX6_95 (hrecv (ci := 5) B hP (hk_lt (c := 5) (show hk 1 = 5 by decide +kernel) (by decide)) (hcc5 _ _ (show hk 1 = 5 by decide +kernel)) rfl) rfl rfl hl.1 (Nat.le_of_ble_eq_true rfl) ⟨Nat.le_of_ble_eq_true rfl, Nat.le_of_ble_eq_true rfl⟩ ⟨Nat.le_of_ble_eq_true rfl, Nat.le_of_ble_eq_true rfl⟩ dX6_quiet_5) hS (fun r91 ρ92 H locs q93 hP hS => ?_)
  obtain ⟨rfl, hI, q93⟩ := q93
  rcases q93 with rfl | ⟨j94, rfl, ej94, uj94⟩
  · skip
    refine W.eq (g2 := F0 m 8 ls [.null]) rfl ?_
    refine lv_astore_nN (lv' := [(3, .null), (0, .ref (E.2.1 + 0)), (1, .int a1), (2, .int a2)]) hx hb dX6_quiet_8 rfl hl (by decide) rfl (fun ls hl => ?_)
    refine lv_aload_nN hx hb dX6_quiet_9 rfl (lv_at hl 0 rfl) ?_
    refine lv_ifnullN (tgt := 24) hx hb dX6_quiet_10 (by decide) ?_
    refine lv_iconst (v := (-1)) hx hb dX6_quiet_24 (by decide) ?_
    exact ret_i B hr hlk hP hS dX6_quiet_25 (⟨rfl, hI⟩)
  · skip
    refine W.eq (g2 := F0 m 8 ls [.ref (E.2.1 + (5 + 1 + 42 * j94))]) rfl ?_
    refine lv_astore_n (lv' := [(3, .ref (E.2.1 + (5 + 1 + 42 * j94))), (0, .ref (E.2.1 + 0)), (1, .int a1), (2, .int a2)]) hx hb dX6_quiet_8 rfl hl (by decide) rfl (fun ls hl => ?_)
    refine lv_aload_n hx hb dX6_quiet_9 rfl (lv_at hl 0 rfl) ?_
    refine lv_ifnull hx hb dX6_quiet_10 ?_
    refine lv_iload_n hx hb dX6_quiet_13 rfl (lv_at hl 3 rfl) ?_
    refine lv_iconst (v := 0) hx hb dX6_quiet_14 (by decide) ?_
    refine lv_sipush (v := 9999) hx hb dX6_quiet_15 (by decide) ?_
    refine call_i (cS (av := [.int a2, .int 0, .int 9999]) (rest := []) B hP hS (c_isWithin l E ρ a2 0 9999 0 9999 (by decide) (by decide)) lk_RX6_54 rfl rfl hl.1 (Nat.le_of_ble_eq_true rfl) ⟨Nat.le_of_ble_eq_true rfl, Nat.le_of_ble_eq_true rfl⟩ ⟨Nat.le_of_ble_eq_true rfl, Nat.le_of_ble_eq_true rfl⟩ dX6_quiet_18) hS (fun r96 ρ97 H locs q98 hP hS => ?_)
    obtain ⟨rfl, q98⟩ := q98
    rcases q98 with ⟨rfl, q98⟩ | ⟨rfl, q98⟩
    · skip
      refine lv_if_ne (tgt := 26) hx hb dX6_quiet_21 (by decide) (fun _ => ?_) (fun c99 => absurd c99 (iR_ne (show iR 1 (1) (1) from ⟨by decide, by decide⟩) (show iR 0 (0) (0) from ⟨by decide, by decide⟩) (by decide)))
      refine lv_iconst (v := 0) hx hb dX6_quiet_26 (by decide) ?_
      refine lv_istore (lv' := [(4, .int 0), (3, .ref (E.2.1 + (5 + 1 + 42 * j94))), (0, .ref (E.2.1 + 0)), (1, .int a1), (2, .int a2)]) hx hb dX6_quiet_27 hl (by decide) rfl (fun ls hl => ?_)
      refine lv_iconst (v := 0) hx hb dX6_quiet_29 (by decide) ?_
      refine lv_istore (lv' := [(5, .int 0), (4, .int 0), (3, .ref (E.2.1 + (5 + 1 + 42 * j94))), (0, .ref (E.2.1 + 0)), (1, .int a1), (2, .int a2)]) hx hb dX6_quiet_30 hl (by decide) rfl (fun ls hl => ?_)
      exact b32_0 ls _ _ _ (5 + 1 + 42 * j94) (0 : Int32) 0 (lv_sub hl [3, 5, 2, 1, 0] rfl) hP hS (Nat.lt_succ_self _) (lay5n (k := 1) (n := j94) (by decide +kernel) uj94) (iR_w (show iR 0 (0) (0) from ⟨by decide, by decide⟩) (by decide) (by decide)) (by omega) (by omega) (iR_w (show iR a1 0 1 from by rw [ej94]; exact nI_iR (by omega) (by omega) (by omega)) (by decide) (by decide)) (iR_w q98 (by decide) (by decide))
    · skip
      refine lv_if_ne (tgt := 26) hx hb dX6_quiet_21 (by decide) (fun c100 => absurd rfl c100) (fun _ => ?_)
      refine lv_iconst (v := (-1)) hx hb dX6_quiet_24 (by decide) ?_
      exact ret_i B hr hlk hP hS dX6_quiet_25 (⟨rfl, hI⟩)

set_option maxHeartbeats 4000000 in
set_option maxRecDepth 100000 in
theorem d_X6_bestShare (l : Launch) (E : hE) (ρ r : Nat → Nat → Int32) (a1 : Int32) (hI : CI r S0 ρ) : Met l yX6_bestShare (.code yX6_bestShare cX6_bestShare 6 (some .int) :: gw_all) (rmk 7 280) (cPre E ρ [.ref (E.2.1 + 0), .int a1]) (cI E (fun v ρ1 => CI r S0 ρ1)) 0 0 (hA E) := by
  refine ent (own := RX6) (by decide) rfl (Nat.le_of_ble_eq_true rfl) ?_
  intro p e s m below meth c ls B hr hlk hl hP hS
  have hx := B.1.1
  have hb := B.1.2.1
  have hown := B.1.2.2.2.1
  have hts := B.1.2.2.2.2
  have hl : lv_has ls 6 [(0, .ref (E.2.1 + 0)), (1, .int a1)] := hl
  have b27_0 : ∀ (ls : Array Slot) (ρ : Nat → Nat → Int32) (H : Heap) (locs : List Loc) (d27 : Nat) (j27_2 : Nat) (x27_3 : Int32) (j27_4 : Nat), lv_has ls 6 [(0, .ref (E.2.1 + 0)), (1, .int a1), (2, .int (nI j27_2)), (3, .int x27_3), (4, .int (nI j27_4))] → WP E ρ H → va_S (hA E) s.heap H locs → CI r S0 ρ → 65536 - j27_4 < d27 → 0 ≤ j27_2 → j27_2 ≤ 32 → iR x27_3 (-2147483648) (2147483647) → 0 ≤ j27_4 → j27_4 ≤ 65535 → iR a1 (1) (32) → W p l e (rmk 7 280) s m ([.ref (E.2.1 + 0), .int a1] : List Value).toArray below meth c H locs 0 0 (MQ below (cI E (fun v ρ1 => CI r S0 ρ1)) ([.ref (E.2.1 + 0), .int a1] : List Value).toArray s 0 0 (hA E)) (F0 m 27 ls []) := by
    intro ls ρ H locs d27
    induction d27 generalizing ls ρ H locs with
    | zero => intro j27_2 x27_3 j27_4 hl hP hS hI hd27 lj27_2 uj27_2 hx27_3 lj27_4 uj27_4 fa1; exact absurd hd27 (Nat.not_lt_zero _)
    | succ d27 ih27 =>
      intro j27_2 x27_3 j27_4 hl hP hS hI hd27 lj27_2 uj27_2 hx27_3 lj27_4 uj27_4 fa1
      have b58_0 : ∀ (ls : Array Slot) (ρ : Nat → Nat → Int32) (H : Heap) (locs : List Loc) (j58_2 : Nat) (x58_3 : Int32), lv_has ls 6 [(0, .ref (E.2.1 + 0)), (1, .int a1), (2, .int (nI j58_2)), (3, .int x58_3), (4, .int (nI j27_4))] → WP E ρ H → va_S (hA E) s.heap H locs → CI r S0 ρ → 0 ≤ j58_2 → j58_2 ≤ 32 → iR x58_3 (-2147483648) (2147483647) → iR a1 (1) (32) → 0 ≤ j27_2 → j27_2 ≤ 32 → 0 ≤ j27_4 → j27_4 ≤ 32 → W p l e (rmk 7 280) s m ([.ref (E.2.1 + 0), .int a1] : List Value).toArray below meth c H locs 0 0 (MQ below (cI E (fun v ρ1 => CI r S0 ρ1)) ([.ref (E.2.1 + 0), .int a1] : List Value).toArray s 0 0 (hA E)) (F0 m 58 ls []) := by
        intro ls ρ H locs j58_2 x58_3 hl hP hS hI lj58_2 uj58_2 hx58_3 fa1 tlj27_2 tuj27_2 tlj27_4 tuj27_4
        refine lv_iinc (v := (nI (2 + j27_4))) (lv' := [(4, .int (nI (2 + j27_4))), (0, .ref (E.2.1 + 0)), (1, .int a1), (2, .int (nI j58_2)), (3, .int x58_3)]) hx hb dX6_bestShare_58 hl (k := 4) rfl (show nI j27_4 + nI 2 = _ from (nI_add _ _).trans (congrArg nI (by omega))) (by decide) rfl (fun ls hl => ?_)
        refine lv_goto (tgt := 27) hx hb dX6_bestShare_61 (by decide) ?_
        exact ih27 ls ρ _ _ j58_2 (x58_3 : Int32) (2 + j27_4) (lv_sub hl [1, 2, 3, 4, 0] rfl) hP hS hI (by omega) (by omega) (by omega) (iR_w hx58_3 (by decide) (by decide)) (by omega) (by omega) (iR_w fa1 (by decide) (by decide))
      refine lv_iload hx hb dX6_bestShare_27 (lv_at hl 4 rfl) ?_
      refine lv_bipush (v := 32) hx hb dX6_bestShare_29 (by decide) ?_
      refine lv_icmp_gt (tgt := 64) hx hb dX6_bestShare_31 (by decide) (fun c109 => ?_) (fun c109 => ?_)
      · skip
        have n110 := (nx_lt (a := 32) (b := j27_4) (by omega) (by omega)).mp (show (nI 32 < nI j27_4) from c109)
        refine lv_iload_n hx hb dX6_bestShare_64 rfl (lv_at hl 2 rfl) ?_
        exact ret_i B hr hlk hP hS dX6_bestShare_65 (hI)
      · skip
        have n111 := mt (nx_lt (a := 32) (b := j27_4) (by omega) (by omega)).mpr (show ¬ (nI 32 < nI j27_4) from c109)
        refine lv_aload_n hx hb dX6_bestShare_34 rfl (lv_at hl 0 rfl) ?_
        refine lv_iload hx hb dX6_bestShare_35 (lv_at hl 4 rfl) ?_
        refine call_q (cVt (k := 0) (av := [.int (nI j27_4)]) (rest := []) B hP hS (d_X6_paperWith l E ρ r (nI j27_4) hI) lk_RX6_342 (hrecv (ci := 6) B hP (hk_lt (c := 6) (show hk 0 = 6 by decide +kernel) (by decide)) (hcc6 _ _ (show hk 0 = 6 by decide +kernel)) rfl) rfl rfl hl.1 (Nat.le_of_ble_eq_true rfl) ⟨Nat.le_of_ble_eq_true rfl, Nat.le_of_ble_eq_true rfl⟩ ⟨Nat.le_of_ble_eq_true rfl, Nat.le_of_ble_eq_true rfl⟩ dX6_bestShare_37) hS (fun r112 ρ113 H locs q114 hP hS => ?_)
        obtain ⟨hI, rfl⟩ := q114
        refine W.eq (g2 := F0 m 40 ls [.ref (E.2.1 + 90)]) rfl ?_
        refine lv_iload_n hx hb dX6_bestShare_40 rfl (lv_at hl 1 rfl) ?_
        obtain ⟨j115, lj115, uj115, ej115⟩ := iR_nat (a := 1) (b := 32) fa1
        refine lv_topi (fun z116 ez116 => ?_)
        obtain rfl : z116 = nI j115 := ez116.trans ej115
        refine call_i (cVt (k := 90) (av := [.int (nI j115)]) (rest := []) B hP hS (d_X5_heardInTurns l E ρ113 r 90 (show hk 90 = 5 by decide +kernel) j115 (by omega) (by omega) hI) lk_RX6_216 (hrecv (ci := 5) B hP (hk_lt (c := 5) (show hk 90 = 5 by decide +kernel) (by decide)) (hcc5 _ _ (show hk 90 = 5 by decide +kernel)) rfl) rfl rfl hl.1 (Nat.le_of_ble_eq_true rfl) ⟨Nat.le_of_ble_eq_true rfl, Nat.le_of_ble_eq_true rfl⟩ ⟨Nat.le_of_ble_eq_true rfl, Nat.le_of_ble_eq_true rfl⟩ dX6_bestShare_41) hS (fun r117 ρ118 H locs q119 hP hS => ?_)
        have hI := q119
        refine lv_istore (lv' := [(5, .int r117), (0, .ref (E.2.1 + 0)), (1, .int a1), (2, .int (nI j27_2)), (3, .int x27_3), (4, .int (nI j27_4))]) hx hb dX6_bestShare_44 hl (by decide) rfl (fun ls hl => ?_)
        refine lv_iload hx hb dX6_bestShare_46 (lv_at hl 0 rfl) ?_
        refine lv_iload_n hx hb dX6_bestShare_48 rfl (lv_at hl 4 rfl) ?_
        refine lv_icmp_le (tgt := 58) hx hb dX6_bestShare_49 (by decide) (fun c121 => ?_) (fun c121 => ?_)
        · skip
          exact b58_0 ls ρ118 _ _ j27_2 (x27_3 : Int32) (lv_sub hl [1, 2, 3, 4, 5] rfl) hP hS hI (by omega) (by omega) (iR_w hx27_3 (by decide) (by decide)) (iR_w fa1 (by decide) (by decide)) (by omega) (by omega) (by omega) (by omega)
        · skip
          refine lv_iload hx hb dX6_bestShare_52 (lv_at hl 0 rfl) ?_
          refine lv_istore_n (lv' := [(3, .int r117), (5, .int r117), (0, .ref (E.2.1 + 0)), (1, .int a1), (2, .int (nI j27_2)), (4, .int (nI j27_4))]) hx hb dX6_bestShare_54 rfl hl (by decide) rfl (fun ls hl => ?_)
          refine lv_iload hx hb dX6_bestShare_55 (lv_at hl 5 rfl) ?_
          refine lv_istore_n (lv' := [(2, .int (nI j27_4)), (3, .int r117), (5, .int r117), (0, .ref (E.2.1 + 0)), (1, .int a1), (4, .int (nI j27_4))]) hx hb dX6_bestShare_57 rfl hl (by decide) rfl (fun ls hl => ?_)
          exact b58_0 ls ρ118 _ _ j27_4 (r117 : Int32) (lv_sub hl [3, 4, 0, 1, 5] rfl) hP hS hI (by omega) (by omega) (iR_w (iR_any r117) (by decide) (by decide)) (iR_w fa1 (by decide) (by decide)) (by omega) (by omega) (by omega) (by omega)
  refine lv_iload_n hx hb dX6_bestShare_0 rfl (lv_at hl 1 rfl) ?_
  refine lv_iconst (v := 1) hx hb dX6_bestShare_1 (by decide) ?_
  refine lv_bipush (v := 32) hx hb dX6_bestShare_2 (by decide) ?_
  refine call_i (cS (av := [.int a1, .int 1, .int 32]) (rest := []) B hP hS (c_isWithin l E ρ a1 1 32 1 32 (by decide) (by decide)) lk_RX6_54 rfl rfl hl.1 (Nat.le_of_ble_eq_true rfl) ⟨Nat.le_of_ble_eq_true rfl, Nat.le_of_ble_eq_true rfl⟩ ⟨Nat.le_of_ble_eq_true rfl, Nat.le_of_ble_eq_true rfl⟩ dX6_bestShare_4) hS (fun r122 ρ123 H locs q124 hP hS => ?_)
  obtain ⟨rfl, q124⟩ := q124
  rcases q124 with ⟨rfl, q124⟩ | ⟨rfl, q124⟩
  · skip
    refine lv_if_eq (tgt := 18) hx hb dX6_bestShare_7 (by decide) (fun c125 => absurd c125 (iR_ne (show iR 1 (1) (1) from ⟨by decide, by decide⟩) (show iR 0 (0) (0) from ⟨by decide, by decide⟩) (by decide))) (fun _ => ?_)
    refine lv_aload_n hx hb dX6_bestShare_10 rfl (lv_at hl 0 rfl) ?_
    refine lv_iload_n hx hb dX6_bestShare_11 rfl (lv_at hl 1 rfl) ?_
    obtain ⟨j126, lj126, uj126, ej126⟩ := iR_nat (a := 1) (b := 32) q124
    refine lv_topi (fun z127 ez127 => ?_)
    obtain rfl : z127 = nI j126 := ez127.trans ej126
    refine call_i (cVt (k := 0) (av := [.int (nI j126)]) (rest := []) B hP hS (d_X6_hasTimeFor l E ρ r (nI j126) hI) lk_RX6_213 (hrecv (ci := 6) B hP (hk_lt (c := 6) (show hk 0 = 6 by decide +kernel) (by decide)) (hcc6 _ _ (show hk 0 = 6 by decide +kernel)) rfl) rfl rfl hl.1 (Nat.le_of_ble_eq_true rfl) ⟨Nat.le_of_ble_eq_true rfl, Nat.le_of_ble_eq_true rfl⟩ ⟨Nat.le_of_ble_eq_true rfl, Nat.le_of_ble_eq_true rfl⟩ dX6_bestShare_12) hS (fun r128 ρ129 H locs q130 hP hS => ?_)
    obtain ⟨rfl, hI, i131⟩ := q130
    obtain ⟨j132, lj132, uj132, ej132⟩ := iR_nat (a := 0) (b := 1) i131
    refine lv_topi (fun z133 ez133 => ?_)
    obtain rfl : z133 = nI j132 := ez133.trans ej132
    refine lv_if_ne (tgt := 20) hx hb dX6_bestShare_15 (by decide) (fun c134 => ?_) (fun c134 => ?_)
    · skip
      have n135 := mt (nI_eq (a := j132) (b := 0) (by omega) (by omega)).mpr (show ¬ (nI j132 = nI 0) from c134)
      refine lv_iconst (v := 0) hx hb dX6_bestShare_20 (by decide) ?_
      refine lv_istore_n (lv' := [(2, .int 0), (0, .ref (E.2.1 + 0)), (1, .int a1)]) hx hb dX6_bestShare_21 rfl hl (by decide) rfl (fun ls hl => ?_)
      refine lv_iconst (v := (-1)) hx hb dX6_bestShare_22 (by decide) ?_
      refine lv_istore_n (lv' := [(3, .int (-1)), (2, .int 0), (0, .ref (E.2.1 + 0)), (1, .int a1)]) hx hb dX6_bestShare_23 rfl hl (by decide) rfl (fun ls hl => ?_)
      refine lv_iconst (v := 0) hx hb dX6_bestShare_24 (by decide) ?_
      refine lv_istore (lv' := [(4, .int 0), (3, .int (-1)), (2, .int 0), (0, .ref (E.2.1 + 0)), (1, .int a1)]) hx hb dX6_bestShare_25 hl (by decide) rfl (fun ls hl => ?_)
      exact b27_0 ls ρ _ _ _ 0 ((-1) : Int32) 0 (lv_sub hl [3, 4, 2, 1, 0] rfl) hP hS hI (Nat.lt_succ_self _) (by omega) (by omega) (iR_w (show iR (-1) (-1) (-1) from ⟨by decide, by decide⟩) (by decide) (by decide)) (by omega) (by omega) (iR_w q124 (by decide) (by decide))
    · skip
      have n136 := (nI_eq (a := j132) (b := 0) (by omega) (by omega)).mp (show (nI j132 = nI 0) from c134)
      refine lv_iconst (v := (-1)) hx hb dX6_bestShare_18 (by decide) ?_
      exact ret_i B hr hlk hP hS dX6_bestShare_19 (hI)
  · skip
    refine lv_if_eq (tgt := 18) hx hb dX6_bestShare_7 (by decide) (fun _ => ?_) (fun c137 => absurd rfl c137)
    refine lv_iconst (v := (-1)) hx hb dX6_bestShare_18 (by decide) ?_
    exact ret_i B hr hlk hP hS dX6_bestShare_19 (hI)

set_option maxHeartbeats 4000000 in
set_option maxRecDepth 100000 in
theorem d_X6_ofNet (l : Launch) (E : hE) (ρ r : Nat → Nat → Int32) (a1 : Int32) (a2 : Int32) (hI : CI r S0 ρ) : Met l yX6_ofNet (.code yX6_ofNet cX6_ofNet 4 (some .int) :: gw_all) (rmk 2 80) (cPre E ρ [.ref (E.2.1 + 0), .int a1, .int a2]) (cI E (fun v ρ1 => ρ = ρ1 ∧ CI r S0 ρ1)) 0 0 (hA E) := by
  refine ent (own := RX6) (by decide) rfl (Nat.le_of_ble_eq_true rfl) ?_
  intro p e s m below meth c ls B hr hlk hl hP hS
  have hx := B.1.1
  have hb := B.1.2.1
  have hown := B.1.2.2.2.1
  have hts := B.1.2.2.2.2
  have hl : lv_has ls 4 [(0, .ref (E.2.1 + 0)), (1, .int a1), (2, .int a2)] := hl
  refine lv_aload_n hx hb dX6_ofNet_0 rfl (lv_at hl 0 rfl) ?_
  refine get6 B hP (show hk 0 = 6 by decide +kernel) 0 (by decide) mw_412 rfl dX6_ofNet_1 ?_
  refine lv_iload_n hx hb dX6_ofNet_4 rfl (lv_at hl 1 rfl) ?_
  refine call_q (cVt (k := 1) (av := [.int a1]) (rest := []) B hP hS (d_X5_netAt l E ρ r S0 hS0 1 (show hk 1 = 5 by decide +kernel) a1 hI) lk_RX6_95 (hrecv (ci := 5) B hP (hk_lt (c := 5) (show hk 1 = 5 by decide +kernel) (by decide)) (hcc5 _ _ (show hk 1 = 5 by decide +kernel)) rfl) rfl rfl hl.1 (Nat.le_of_ble_eq_true rfl) ⟨Nat.le_of_ble_eq_true rfl, Nat.le_of_ble_eq_true rfl⟩ ⟨Nat.le_of_ble_eq_true rfl, Nat.le_of_ble_eq_true rfl⟩ dX6_ofNet_5) hS (fun r13 ρ14 H locs q15 hP hS => ?_)
  obtain ⟨rfl, hI, q15⟩ := q15
  rcases q15 with rfl | ⟨j16, rfl, ej16, uj16⟩
  · skip
    refine W.eq (g2 := F0 m 8 ls [.null]) rfl ?_
    refine lv_astore_nN (lv' := [(3, .null), (0, .ref (E.2.1 + 0)), (1, .int a1), (2, .int a2)]) hx hb dX6_ofNet_8 rfl hl (by decide) rfl (fun ls hl => ?_)
    refine lv_aload_nN hx hb dX6_ofNet_9 rfl (lv_at hl 0 rfl) ?_
    refine lv_ifnonnullN hx hb dX6_ofNet_10 ?_
    refine lv_iconst (v := (-1)) hx hb dX6_ofNet_13 (by decide) ?_
    exact ret_i B hr hlk hP hS dX6_ofNet_14 (⟨rfl, hI⟩)
  · skip
    refine W.eq (g2 := F0 m 8 ls [.ref (E.2.1 + (5 + 1 + 42 * j16))]) rfl ?_
    refine lv_astore_n (lv' := [(3, .ref (E.2.1 + (5 + 1 + 42 * j16))), (0, .ref (E.2.1 + 0)), (1, .int a1), (2, .int a2)]) hx hb dX6_ofNet_8 rfl hl (by decide) rfl (fun ls hl => ?_)
    refine lv_aload_n hx hb dX6_ofNet_9 rfl (lv_at hl 0 rfl) ?_
    refine lv_ifnonnull (tgt := 15) hx hb dX6_ofNet_10 (by decide) ?_
    refine lv_iload_n hx hb dX6_ofNet_15 rfl (lv_at hl 3 rfl) ?_
    rcases sw_split (x := a2) (lo := 0) (hi := 6) (by decide) with c18 | c18
    · skip
      refine lv_tableOut (tgt := 95) hx hb dX6_ofNet_16 c18 (by decide) ?_
      refine lv_iconst (v := (-1)) hx hb dX6_ofNet_95 (by decide) ?_
      exact ret_i B hr hlk hP hS dX6_ofNet_96 (⟨rfl, hI⟩)
    · skip
      rcases sw_step (x := a2) (n := 0) (n' := 1) (by decide) c18 with c18 | c18
      · skip
        refine lv_tableIn (off := 44) (tgt := 60) hx hb dX6_ofNet_16 (by rw [c18]; decide) (by rw [c18]; decide) (by rw [c18]; decide) (by decide) ?_
        refine lv_aload_n hx hb dX6_ofNet_60 rfl (lv_at hl 0 rfl) ?_
        refine get2 B hP (lay5n (k := 1) (n := j16) (by decide +kernel) uj16) 5 (by decide) mw_295 rfl dX6_ofNet_61 ?_
        exact ret_i B hr hlk hP hS dX6_ofNet_64 (⟨rfl, hI⟩)
      · skip
        rcases sw_step (x := a2) (n := 1) (n' := 2) (by decide) c18 with c18 | c18
        · skip
          refine lv_tableIn (off := 49) (tgt := 65) hx hb dX6_ofNet_16 (by rw [c18]; decide) (by rw [c18]; decide) (by rw [c18]; decide) (by decide) ?_
          refine lv_aload_n hx hb dX6_ofNet_65 rfl (lv_at hl 0 rfl) ?_
          refine get2 B hP (lay5n (k := 1) (n := j16) (by decide +kernel) uj16) 6 (by decide) mw_298 rfl dX6_ofNet_66 ?_
          exact ret_i B hr hlk hP hS dX6_ofNet_69 (⟨rfl, hI⟩)
        · skip
          rcases sw_step (x := a2) (n := 2) (n' := 3) (by decide) c18 with c18 | c18
          · skip
            refine lv_tableIn (off := 54) (tgt := 70) hx hb dX6_ofNet_16 (by rw [c18]; decide) (by rw [c18]; decide) (by rw [c18]; decide) (by decide) ?_
            refine lv_aload_n hx hb dX6_ofNet_70 rfl (lv_at hl 0 rfl) ?_
            refine get2 B hP (lay5n (k := 1) (n := j16) (by decide +kernel) uj16) 8 (by decide) mw_304 rfl dX6_ofNet_71 ?_
            have i19 : iR (ρ (5 + 1 + 42 * j16) 8) 0 4 := CI_get hI (kind_lt (lay5n (k := 1) (n := j16) (by decide +kernel) uj16) (by decide)) (lay5n (k := 1) (n := j16) (by decide +kernel) uj16) rfl
            obtain ⟨j20, lj20, uj20, ej20⟩ := iR_nat (a := 0) (b := 4) i19
            refine lv_topi (fun z21 ez21 => ?_)
            obtain rfl : z21 = nI j20 := ez21.trans ej20
            exact ret_i B hr hlk hP hS dX6_ofNet_74 (⟨rfl, hI⟩)
          · skip
            rcases sw_step (x := a2) (n := 3) (n' := 4) (by decide) c18 with c18 | c18
            · skip
              refine lv_tableIn (off := 59) (tgt := 75) hx hb dX6_ofNet_16 (by rw [c18]; decide) (by rw [c18]; decide) (by rw [c18]; decide) (by decide) ?_
              refine lv_aload_n hx hb dX6_ofNet_75 rfl (lv_at hl 0 rfl) ?_
              refine get2 B hP (lay5n (k := 1) (n := j16) (by decide +kernel) uj16) 9 (by decide) mw_307 rfl dX6_ofNet_76 ?_
              exact ret_i B hr hlk hP hS dX6_ofNet_79 (⟨rfl, hI⟩)
            · skip
              rcases sw_step (x := a2) (n := 4) (n' := 5) (by decide) c18 with c18 | c18
              · skip
                refine lv_tableIn (off := 64) (tgt := 80) hx hb dX6_ofNet_16 (by rw [c18]; decide) (by rw [c18]; decide) (by rw [c18]; decide) (by decide) ?_
                refine lv_aload_n hx hb dX6_ofNet_80 rfl (lv_at hl 0 rfl) ?_
                refine get2 B hP (lay5n (k := 1) (n := j16) (by decide +kernel) uj16) 11 (by decide) mw_310 rfl dX6_ofNet_81 ?_
                have i22 : iR (ρ (5 + 1 + 42 * j16) 11) 0 4 := CI_get hI (kind_lt (lay5n (k := 1) (n := j16) (by decide +kernel) uj16) (by decide)) (lay5n (k := 1) (n := j16) (by decide +kernel) uj16) rfl
                obtain ⟨j23, lj23, uj23, ej23⟩ := iR_nat (a := 0) (b := 4) i22
                refine lv_topi (fun z24 ez24 => ?_)
                obtain rfl : z24 = nI j23 := ez24.trans ej23
                exact ret_i B hr hlk hP hS dX6_ofNet_84 (⟨rfl, hI⟩)
              · skip
                rcases sw_step (x := a2) (n := 5) (n' := 6) (by decide) c18 with c18 | c18
                · skip
                  refine lv_tableIn (off := 69) (tgt := 85) hx hb dX6_ofNet_16 (by rw [c18]; decide) (by rw [c18]; decide) (by rw [c18]; decide) (by decide) ?_
                  refine lv_aload_n hx hb dX6_ofNet_85 rfl (lv_at hl 0 rfl) ?_
                  refine get2 B hP (lay5n (k := 1) (n := j16) (by decide +kernel) uj16) 13 (by decide) mw_315 rfl dX6_ofNet_86 ?_
                  exact ret_i B hr hlk hP hS dX6_ofNet_89 (⟨rfl, hI⟩)
                · skip
                  have c18 := sw_last (n := 6) c18
                  refine lv_tableIn (off := 74) (tgt := 90) hx hb dX6_ofNet_16 (by rw [c18]; decide) (by rw [c18]; decide) (by rw [c18]; decide) (by decide) ?_
                  refine lv_aload_n hx hb dX6_ofNet_90 rfl (lv_at hl 0 rfl) ?_
                  refine get2 B hP (lay5n (k := 1) (n := j16) (by decide +kernel) uj16) 12 (by decide) mw_313 rfl dX6_ofNet_91 ?_
                  exact ret_i B hr hlk hP hS dX6_ofNet_94 (⟨rfl, hI⟩)

theorem lk_RX6_382 : LkV RX6 382 RX5 yX5_heardOfAll cX5_heardOfAll 4 (some .int) 0 := ⟨⟨mw_1013, mw_1014, mw_1015, mw_53, mw_1016⟩, by decide +kernel⟩
set_option maxHeartbeats 4000000 in
set_option maxRecDepth 100000 in
theorem d_X6_count (l : Launch) (E : hE) (ρ r : Nat → Nat → Int32) (a1 : Int32) (hI : CI r S0 ρ) : Met l yX6_count (.code yX6_count cX6_count 2 (some .int) :: gw_all) (rmk 2 80) (cPre E ρ [.ref (E.2.1 + 0), .int a1]) (cI E (fun v ρ1 => ρ = ρ1 ∧ CI r S0 ρ1)) 0 0 (hA E) := by
  refine ent (own := RX6) (by decide) rfl (Nat.le_of_ble_eq_true rfl) ?_
  intro p e s m below meth c ls B hr hlk hl hP hS
  have hx := B.1.1
  have hb := B.1.2.1
  have hown := B.1.2.2.2.1
  have hts := B.1.2.2.2.2
  have hl : lv_has ls 2 [(0, .ref (E.2.1 + 0)), (1, .int a1)] := hl
  refine lv_iload_n hx hb dX6_count_0 rfl (lv_at hl 1 rfl) ?_
  rcases sw_split (x := a1) (lo := 0) (hi := 19) (by decide) with c9 | c9
  · skip
    refine lv_tableOut (tgt := 270) hx hb dX6_count_1 c9 (by decide) ?_
    refine lv_iconst (v := (-1)) hx hb dX6_count_270 (by decide) ?_
    exact ret_i B hr hlk hP hS dX6_count_271 (⟨rfl, hI⟩)
  · skip
    rcases sw_step (x := a1) (n := 0) (n' := 1) (by decide) c9 with c9 | c9
    · skip
      refine lv_tableIn (off := 95) (tgt := 96) hx hb dX6_count_1 (by rw [c9]; decide) (by rw [c9]; decide) (by rw [c9]; decide) (by decide) ?_
      refine lv_aload_n hx hb dX6_count_96 rfl (lv_at hl 0 rfl) ?_
      refine get6 B hP (show hk 0 = 6 by decide +kernel) 0 (by decide) mw_412 rfl dX6_count_97 ?_
      refine get5 B hP (show hk 1 = 5 by decide +kernel) 5 (by decide) mw_382 rfl dX6_count_100 ?_
      exact ret_i B hr hlk hP hS dX6_count_103 (⟨rfl, hI⟩)
    · skip
      rcases sw_step (x := a1) (n := 1) (n' := 2) (by decide) c9 with c9 | c9
      · skip
        refine lv_tableIn (off := 103) (tgt := 104) hx hb dX6_count_1 (by rw [c9]; decide) (by rw [c9]; decide) (by rw [c9]; decide) (by decide) ?_
        refine lv_aload_n hx hb dX6_count_104 rfl (lv_at hl 0 rfl) ?_
        refine get6 B hP (show hk 0 = 6 by decide +kernel) 0 (by decide) mw_412 rfl dX6_count_105 ?_
        refine get5 B hP (show hk 1 = 5 by decide +kernel) 4 (by decide) mw_380 rfl dX6_count_108 ?_
        have i10 : iR (ρ 1 4) 0 6 := CI_get hI (by decide) (show hk 1 = 5 by decide +kernel) rfl
        obtain ⟨j11, lj11, uj11, ej11⟩ := iR_nat (a := 0) (b := 6) i10
        refine lv_topi (fun z12 ez12 => ?_)
        obtain rfl : z12 = nI j11 := ez12.trans ej11
        exact ret_i B hr hlk hP hS dX6_count_111 (⟨rfl, hI⟩)
      · skip
        rcases sw_step (x := a1) (n := 2) (n' := 3) (by decide) c9 with c9 | c9
        · skip
          refine lv_tableIn (off := 111) (tgt := 112) hx hb dX6_count_1 (by rw [c9]; decide) (by rw [c9]; decide) (by rw [c9]; decide) (by decide) ?_
          refine lv_aload_n hx hb dX6_count_112 rfl (lv_at hl 0 rfl) ?_
          refine get6 B hP (show hk 0 = 6 by decide +kernel) 0 (by decide) mw_412 rfl dX6_count_113 ?_
          refine get5 B hP (show hk 1 = 5 by decide +kernel) 6 (by decide) mw_384 rfl dX6_count_116 ?_
          exact ret_i B hr hlk hP hS dX6_count_119 (⟨rfl, hI⟩)
        · skip
          rcases sw_step (x := a1) (n := 3) (n' := 4) (by decide) c9 with c9 | c9
          · skip
            refine lv_tableIn (off := 119) (tgt := 120) hx hb dX6_count_1 (by rw [c9]; decide) (by rw [c9]; decide) (by rw [c9]; decide) (by decide) ?_
            refine lv_aload_n hx hb dX6_count_120 rfl (lv_at hl 0 rfl) ?_
            refine get6 B hP (show hk 0 = 6 by decide +kernel) 0 (by decide) mw_412 rfl dX6_count_121 ?_
            refine get5 B hP (show hk 1 = 5 by decide +kernel) 7 (by decide) mw_386 rfl dX6_count_124 ?_
            exact ret_i B hr hlk hP hS dX6_count_127 (⟨rfl, hI⟩)
          · skip
            rcases sw_step (x := a1) (n := 4) (n' := 5) (by decide) c9 with c9 | c9
            · skip
              refine lv_tableIn (off := 127) (tgt := 128) hx hb dX6_count_1 (by rw [c9]; decide) (by rw [c9]; decide) (by rw [c9]; decide) (by decide) ?_
              refine lv_aload_n hx hb dX6_count_128 rfl (lv_at hl 0 rfl) ?_
              refine get6 B hP (show hk 0 = 6 by decide +kernel) 0 (by decide) mw_412 rfl dX6_count_129 ?_
              refine call_i (cVt (k := 1) (av := []) (rest := []) B hP hS (d_X5_heardOfAll l E ρ r S0 hS0 1 (show hk 1 = 5 by decide +kernel) hI) lk_RX6_382 (hrecv (ci := 5) B hP (hk_lt (c := 5) (show hk 1 = 5 by decide +kernel) (by decide)) (hcc5 _ _ (show hk 1 = 5 by decide +kernel)) rfl) rfl rfl hl.1 (Nat.le_of_ble_eq_true rfl) ⟨Nat.le_of_ble_eq_true rfl, Nat.le_of_ble_eq_true rfl⟩ ⟨Nat.le_of_ble_eq_true rfl, Nat.le_of_ble_eq_true rfl⟩ dX6_count_132) hS (fun r13 ρ14 H locs q15 hP hS => ?_)
              obtain ⟨rfl, hI⟩ := q15
              exact ret_i B hr hlk hP hS dX6_count_135 (⟨rfl, hI⟩)
            · skip
              rcases sw_step (x := a1) (n := 5) (n' := 6) (by decide) c9 with c9 | c9
              · skip
                refine lv_tableIn (off := 135) (tgt := 136) hx hb dX6_count_1 (by rw [c9]; decide) (by rw [c9]; decide) (by rw [c9]; decide) (by decide) ?_
                refine lv_aload_n hx hb dX6_count_136 rfl (lv_at hl 0 rfl) ?_
                refine get6 B hP (show hk 0 = 6 by decide +kernel) 8 (by decide) mw_420 rfl dX6_count_137 ?_
                refine lv_iconst (v := 0) hx hb dX6_count_140 (by decide) ?_
                refine aldn (n := 5) (j := 0) B hP (show hk 183 = 8 by decide +kernel) (show hlen 183 = 5 by decide +kernel) rfl (by decide) (by decide) dX6_count_141 ?_
                exact ret_i B hr hlk hP hS dX6_count_142 (⟨rfl, hI⟩)
              · skip
                rcases sw_step (x := a1) (n := 6) (n' := 7) (by decide) c9 with c9 | c9
                · skip
                  refine lv_tableIn (off := 142) (tgt := 143) hx hb dX6_count_1 (by rw [c9]; decide) (by rw [c9]; decide) (by rw [c9]; decide) (by decide) ?_
                  refine lv_aload_n hx hb dX6_count_143 rfl (lv_at hl 0 rfl) ?_
                  refine get6 B hP (show hk 0 = 6 by decide +kernel) 8 (by decide) mw_420 rfl dX6_count_144 ?_
                  refine lv_iconst (v := 1) hx hb dX6_count_147 (by decide) ?_
                  refine aldn (n := 5) (j := 1) B hP (show hk 183 = 8 by decide +kernel) (show hlen 183 = 5 by decide +kernel) rfl (by decide) (by decide) dX6_count_148 ?_
                  exact ret_i B hr hlk hP hS dX6_count_149 (⟨rfl, hI⟩)
                · skip
                  rcases sw_step (x := a1) (n := 7) (n' := 8) (by decide) c9 with c9 | c9
                  · skip
                    refine lv_tableIn (off := 149) (tgt := 150) hx hb dX6_count_1 (by rw [c9]; decide) (by rw [c9]; decide) (by rw [c9]; decide) (by decide) ?_
                    refine lv_aload_n hx hb dX6_count_150 rfl (lv_at hl 0 rfl) ?_
                    refine get6 B hP (show hk 0 = 6 by decide +kernel) 8 (by decide) mw_420 rfl dX6_count_151 ?_
                    refine lv_iconst (v := 3) hx hb dX6_count_154 (by decide) ?_
                    refine aldn (n := 5) (j := 3) B hP (show hk 183 = 8 by decide +kernel) (show hlen 183 = 5 by decide +kernel) rfl (by decide) (by decide) dX6_count_155 ?_
                    exact ret_i B hr hlk hP hS dX6_count_156 (⟨rfl, hI⟩)
                  · skip
                    rcases sw_step (x := a1) (n := 8) (n' := 9) (by decide) c9 with c9 | c9
                    · skip
                      refine lv_tableIn (off := 156) (tgt := 157) hx hb dX6_count_1 (by rw [c9]; decide) (by rw [c9]; decide) (by rw [c9]; decide) (by decide) ?_
                      refine lv_aload_n hx hb dX6_count_157 rfl (lv_at hl 0 rfl) ?_
                      refine get6 B hP (show hk 0 = 6 by decide +kernel) 8 (by decide) mw_420 rfl dX6_count_158 ?_
                      refine lv_iconst (v := 4) hx hb dX6_count_161 (by decide) ?_
                      refine aldn (n := 5) (j := 4) B hP (show hk 183 = 8 by decide +kernel) (show hlen 183 = 5 by decide +kernel) rfl (by decide) (by decide) dX6_count_162 ?_
                      exact ret_i B hr hlk hP hS dX6_count_163 (⟨rfl, hI⟩)
                    · skip
                      rcases sw_step (x := a1) (n := 9) (n' := 10) (by decide) c9 with c9 | c9
                      · skip
                        refine lv_tableIn (off := 163) (tgt := 164) hx hb dX6_count_1 (by rw [c9]; decide) (by rw [c9]; decide) (by rw [c9]; decide) (by decide) ?_
                        refine lv_aload_n hx hb dX6_count_164 rfl (lv_at hl 0 rfl) ?_
                        refine get6 B hP (show hk 0 = 6 by decide +kernel) 7 (by decide) mw_419 rfl dX6_count_165 ?_
                        exact ret_i B hr hlk hP hS dX6_count_168 (⟨rfl, hI⟩)
                      · skip
                        rcases sw_step (x := a1) (n := 10) (n' := 11) (by decide) c9 with c9 | c9
                        · skip
                          refine lv_tableIn (off := 168) (tgt := 169) hx hb dX6_count_1 (by rw [c9]; decide) (by rw [c9]; decide) (by rw [c9]; decide) (by decide) ?_
                          refine lv_aload_n hx hb dX6_count_169 rfl (lv_at hl 0 rfl) ?_
                          refine get6 B hP (show hk 0 = 6 by decide +kernel) 0 (by decide) mw_412 rfl dX6_count_170 ?_
                          refine get5 B hP (show hk 1 = 5 by decide +kernel) 2 (by decide) mw_376 rfl dX6_count_173 ?_
                          refine lv_iconst (v := 0) hx hb dX6_count_176 (by decide) ?_
                          refine aldn (n := 9) (j := 0) B hP (show hk 4 = 8 by decide +kernel) (show hlen 4 = 9 by decide +kernel) rfl (by decide) (by decide) dX6_count_177 ?_
                          exact ret_i B hr hlk hP hS dX6_count_178 (⟨rfl, hI⟩)
                        · skip
                          rcases sw_step (x := a1) (n := 11) (n' := 12) (by decide) c9 with c9 | c9
                          · skip
                            refine lv_tableIn (off := 178) (tgt := 179) hx hb dX6_count_1 (by rw [c9]; decide) (by rw [c9]; decide) (by rw [c9]; decide) (by decide) ?_
                            refine lv_aload_n hx hb dX6_count_179 rfl (lv_at hl 0 rfl) ?_
                            refine get6 B hP (show hk 0 = 6 by decide +kernel) 0 (by decide) mw_412 rfl dX6_count_180 ?_
                            refine get5 B hP (show hk 1 = 5 by decide +kernel) 2 (by decide) mw_376 rfl dX6_count_183 ?_
                            refine lv_iconst (v := 1) hx hb dX6_count_186 (by decide) ?_
                            refine aldn (n := 9) (j := 1) B hP (show hk 4 = 8 by decide +kernel) (show hlen 4 = 9 by decide +kernel) rfl (by decide) (by decide) dX6_count_187 ?_
                            exact ret_i B hr hlk hP hS dX6_count_188 (⟨rfl, hI⟩)
                          · skip
                            rcases sw_step (x := a1) (n := 12) (n' := 13) (by decide) c9 with c9 | c9
                            · skip
                              refine lv_tableIn (off := 188) (tgt := 189) hx hb dX6_count_1 (by rw [c9]; decide) (by rw [c9]; decide) (by rw [c9]; decide) (by decide) ?_
                              refine lv_aload_n hx hb dX6_count_189 rfl (lv_at hl 0 rfl) ?_
                              refine get6 B hP (show hk 0 = 6 by decide +kernel) 0 (by decide) mw_412 rfl dX6_count_190 ?_
                              refine get5 B hP (show hk 1 = 5 by decide +kernel) 2 (by decide) mw_376 rfl dX6_count_193 ?_
                              refine lv_iconst (v := 2) hx hb dX6_count_196 (by decide) ?_
                              refine aldn (n := 9) (j := 2) B hP (show hk 4 = 8 by decide +kernel) (show hlen 4 = 9 by decide +kernel) rfl (by decide) (by decide) dX6_count_197 ?_
                              exact ret_i B hr hlk hP hS dX6_count_198 (⟨rfl, hI⟩)
                            · skip
                              rcases sw_step (x := a1) (n := 13) (n' := 14) (by decide) c9 with c9 | c9
                              · skip
                                refine lv_tableIn (off := 198) (tgt := 199) hx hb dX6_count_1 (by rw [c9]; decide) (by rw [c9]; decide) (by rw [c9]; decide) (by decide) ?_
                                refine lv_aload_n hx hb dX6_count_199 rfl (lv_at hl 0 rfl) ?_
                                refine get6 B hP (show hk 0 = 6 by decide +kernel) 0 (by decide) mw_412 rfl dX6_count_200 ?_
                                refine get5 B hP (show hk 1 = 5 by decide +kernel) 2 (by decide) mw_376 rfl dX6_count_203 ?_
                                refine lv_iconst (v := 3) hx hb dX6_count_206 (by decide) ?_
                                refine aldn (n := 9) (j := 3) B hP (show hk 4 = 8 by decide +kernel) (show hlen 4 = 9 by decide +kernel) rfl (by decide) (by decide) dX6_count_207 ?_
                                exact ret_i B hr hlk hP hS dX6_count_208 (⟨rfl, hI⟩)
                              · skip
                                rcases sw_step (x := a1) (n := 14) (n' := 15) (by decide) c9 with c9 | c9
                                · skip
                                  refine lv_tableIn (off := 208) (tgt := 209) hx hb dX6_count_1 (by rw [c9]; decide) (by rw [c9]; decide) (by rw [c9]; decide) (by decide) ?_
                                  refine lv_aload_n hx hb dX6_count_209 rfl (lv_at hl 0 rfl) ?_
                                  refine get6 B hP (show hk 0 = 6 by decide +kernel) 0 (by decide) mw_412 rfl dX6_count_210 ?_
                                  refine get5 B hP (show hk 1 = 5 by decide +kernel) 2 (by decide) mw_376 rfl dX6_count_213 ?_
                                  refine lv_iconst (v := 4) hx hb dX6_count_216 (by decide) ?_
                                  refine aldn (n := 9) (j := 4) B hP (show hk 4 = 8 by decide +kernel) (show hlen 4 = 9 by decide +kernel) rfl (by decide) (by decide) dX6_count_217 ?_
                                  exact ret_i B hr hlk hP hS dX6_count_218 (⟨rfl, hI⟩)
                                · skip
                                  rcases sw_step (x := a1) (n := 15) (n' := 16) (by decide) c9 with c9 | c9
                                  · skip
                                    refine lv_tableIn (off := 218) (tgt := 219) hx hb dX6_count_1 (by rw [c9]; decide) (by rw [c9]; decide) (by rw [c9]; decide) (by decide) ?_
                                    refine lv_aload_n hx hb dX6_count_219 rfl (lv_at hl 0 rfl) ?_
                                    refine get6 B hP (show hk 0 = 6 by decide +kernel) 0 (by decide) mw_412 rfl dX6_count_220 ?_
                                    refine get5 B hP (show hk 1 = 5 by decide +kernel) 2 (by decide) mw_376 rfl dX6_count_223 ?_
                                    refine lv_iconst (v := 5) hx hb dX6_count_226 (by decide) ?_
                                    refine aldn (n := 9) (j := 5) B hP (show hk 4 = 8 by decide +kernel) (show hlen 4 = 9 by decide +kernel) rfl (by decide) (by decide) dX6_count_227 ?_
                                    exact ret_i B hr hlk hP hS dX6_count_228 (⟨rfl, hI⟩)
                                  · skip
                                    rcases sw_step (x := a1) (n := 16) (n' := 17) (by decide) c9 with c9 | c9
                                    · skip
                                      refine lv_tableIn (off := 228) (tgt := 229) hx hb dX6_count_1 (by rw [c9]; decide) (by rw [c9]; decide) (by rw [c9]; decide) (by decide) ?_
                                      refine lv_aload_n hx hb dX6_count_229 rfl (lv_at hl 0 rfl) ?_
                                      refine get6 B hP (show hk 0 = 6 by decide +kernel) 0 (by decide) mw_412 rfl dX6_count_230 ?_
                                      refine get5 B hP (show hk 1 = 5 by decide +kernel) 2 (by decide) mw_376 rfl dX6_count_233 ?_
                                      refine lv_bipush (v := 6) hx hb dX6_count_236 (by decide) ?_
                                      refine aldn (n := 9) (j := 6) B hP (show hk 4 = 8 by decide +kernel) (show hlen 4 = 9 by decide +kernel) rfl (by decide) (by decide) dX6_count_238 ?_
                                      exact ret_i B hr hlk hP hS dX6_count_239 (⟨rfl, hI⟩)
                                    · skip
                                      rcases sw_step (x := a1) (n := 17) (n' := 18) (by decide) c9 with c9 | c9
                                      · skip
                                        refine lv_tableIn (off := 239) (tgt := 240) hx hb dX6_count_1 (by rw [c9]; decide) (by rw [c9]; decide) (by rw [c9]; decide) (by decide) ?_
                                        refine lv_aload_n hx hb dX6_count_240 rfl (lv_at hl 0 rfl) ?_
                                        refine get6 B hP (show hk 0 = 6 by decide +kernel) 0 (by decide) mw_412 rfl dX6_count_241 ?_
                                        refine get5 B hP (show hk 1 = 5 by decide +kernel) 2 (by decide) mw_376 rfl dX6_count_244 ?_
                                        refine lv_bipush (v := 7) hx hb dX6_count_247 (by decide) ?_
                                        refine aldn (n := 9) (j := 7) B hP (show hk 4 = 8 by decide +kernel) (show hlen 4 = 9 by decide +kernel) rfl (by decide) (by decide) dX6_count_249 ?_
                                        exact ret_i B hr hlk hP hS dX6_count_250 (⟨rfl, hI⟩)
                                      · skip
                                        rcases sw_step (x := a1) (n := 18) (n' := 19) (by decide) c9 with c9 | c9
                                        · skip
                                          refine lv_tableIn (off := 250) (tgt := 251) hx hb dX6_count_1 (by rw [c9]; decide) (by rw [c9]; decide) (by rw [c9]; decide) (by decide) ?_
                                          refine lv_aload_n hx hb dX6_count_251 rfl (lv_at hl 0 rfl) ?_
                                          refine get6 B hP (show hk 0 = 6 by decide +kernel) 0 (by decide) mw_412 rfl dX6_count_252 ?_
                                          refine get5 B hP (show hk 1 = 5 by decide +kernel) 8 (by decide) mw_388 rfl dX6_count_255 ?_
                                          exact ret_i B hr hlk hP hS dX6_count_258 (⟨rfl, hI⟩)
                                        · skip
                                          have c9 := sw_last (n := 19) c9
                                          refine lv_tableIn (off := 258) (tgt := 259) hx hb dX6_count_1 (by rw [c9]; decide) (by rw [c9]; decide) (by rw [c9]; decide) (by decide) ?_
                                          refine lv_aload_n hx hb dX6_count_259 rfl (lv_at hl 0 rfl) ?_
                                          refine get6 B hP (show hk 0 = 6 by decide +kernel) 0 (by decide) mw_412 rfl dX6_count_260 ?_
                                          refine get5 B hP (show hk 1 = 5 by decide +kernel) 2 (by decide) mw_376 rfl dX6_count_263 ?_
                                          refine lv_bipush (v := 8) hx hb dX6_count_266 (by decide) ?_
                                          refine aldn (n := 9) (j := 8) B hP (show hk 4 = 8 by decide +kernel) (show hlen 4 = 9 by decide +kernel) rfl (by decide) (by decide) dX6_count_268 ?_
                                          exact ret_i B hr hlk hP hS dX6_count_269 (⟨rfl, hI⟩)

set_option maxHeartbeats 4000000 in
set_option maxRecDepth 100000 in
theorem d_X6_status (l : Launch) (E : hE) (ρ r : Nat → Nat → Int32) (hI : CI r S0 ρ) : Met l yX6_status (.code yX6_status cX6_status 1 (some .int) :: gw_all) (rmk 1 40) (cPre E ρ [.ref (E.2.1 + 0)]) (cI E (fun v ρ1 => ρ = ρ1 ∧ CI r S0 ρ1)) 0 0 (hA E) := by
  refine ent (own := RX6) (by decide) rfl (Nat.le_of_ble_eq_true rfl) ?_
  intro p e s m below meth c ls B hr hlk hl hP hS
  have hx := B.1.1
  have hb := B.1.2.1
  have hown := B.1.2.2.2.1
  have hts := B.1.2.2.2.2
  have hl : lv_has ls 1 [(0, .ref (E.2.1 + 0))] := hl
  refine lv_aload_n hx hb dX6_status_0 rfl (lv_at hl 0 rfl) ?_
  refine get6 B hP (show hk 0 = 6 by decide +kernel) 9 (by decide) mw_421 rfl dX6_status_1 ?_
  exact ret_i B hr hlk hP hS dX6_status_4 (⟨rfl, hI⟩)
