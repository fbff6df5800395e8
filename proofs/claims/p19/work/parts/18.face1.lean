theorem dX6_reserve_0 : decode cX6_reserve 0 = .ok (.iload_n 3, 1) := by decide +kernel
theorem dX6_reserve_1 : decode cX6_reserve 1 = .ok (.ifCond .eq 36, 3) := by decide +kernel
theorem dX6_reserve_4 : decode cX6_reserve 4 = .ok (.iload_n 3, 1) := by decide +kernel
theorem dX6_reserve_5 : decode cX6_reserve 5 = .ok (.bipush 6, 2) := by decide +kernel
theorem dX6_reserve_7 : decode cX6_reserve 7 = .ok (.bipush 40, 2) := by decide +kernel
theorem dX6_reserve_9 : decode cX6_reserve 9 = .ok (.invokestatic 156, 3) := by decide +kernel
theorem dX6_reserve_12 : decode cX6_reserve 12 = .ok (.ifCond .eq 29, 3) := by decide +kernel
theorem dX6_reserve_15 : decode cX6_reserve 15 = .ok (.iload 4, 2) := by decide +kernel
theorem dX6_reserve_17 : decode cX6_reserve 17 = .ok (.iconst 0, 1) := by decide +kernel
theorem dX6_reserve_18 : decode cX6_reserve 18 = .ok (.iload_n 3, 1) := by decide +kernel
theorem dX6_reserve_19 : decode cX6_reserve 19 = .ok (.iconst 1, 1) := by decide +kernel
theorem dX6_reserve_20 : decode cX6_reserve 20 = .ok (.isub, 1) := by decide +kernel
theorem dX6_reserve_21 : decode cX6_reserve 21 = .ok (.invokestatic 156, 3) := by decide +kernel
theorem dX6_reserve_24 : decode cX6_reserve 24 = .ok (.ifCond .eq 17, 3) := by decide +kernel
theorem dX6_reserve_27 : decode cX6_reserve 27 = .ok (.iload 5, 2) := by decide +kernel
theorem dX6_reserve_29 : decode cX6_reserve 29 = .ok (.iconst 1, 1) := by decide +kernel
theorem dX6_reserve_30 : decode cX6_reserve 30 = .ok (.iconst 3, 1) := by decide +kernel
theorem dX6_reserve_31 : decode cX6_reserve 31 = .ok (.invokestatic 54, 3) := by decide +kernel
theorem dX6_reserve_34 : decode cX6_reserve 34 = .ok (.ifCond .eq 7, 3) := by decide +kernel
theorem dX6_reserve_37 : decode cX6_reserve 37 = .ok (.iconst 1, 1) := by decide +kernel
theorem dX6_reserve_38 : decode cX6_reserve 38 = .ok (.goto 4, 3) := by decide +kernel
theorem dX6_reserve_41 : decode cX6_reserve 41 = .ok (.iconst 0, 1) := by decide +kernel
theorem dX6_reserve_42 : decode cX6_reserve 42 = .ok (.istore 6, 2) := by decide +kernel
theorem dX6_reserve_44 : decode cX6_reserve 44 = .ok (.iload 6, 2) := by decide +kernel
theorem dX6_reserve_46 : decode cX6_reserve 46 = .ok (.ifCond .ne 9, 3) := by decide +kernel
theorem dX6_reserve_49 : decode cX6_reserve 49 = .ok (.aload_n 0, 1) := by decide +kernel
theorem dX6_reserve_50 : decode cX6_reserve 50 = .ok (.iconst (-1), 1) := by decide +kernel
theorem dX6_reserve_51 : decode cX6_reserve 51 = .ok (.invokevirtual 58, 3) := by decide +kernel
theorem dX6_reserve_54 : decode cX6_reserve 54 = .ok (.ireturn, 1) := by decide +kernel
theorem dX6_reserve_55 : decode cX6_reserve 55 = .ok (.aload_n 0, 1) := by decide +kernel
theorem dX6_reserve_56 : decode cX6_reserve 56 = .ok (.getfield 12, 3) := by decide +kernel
theorem dX6_reserve_59 : decode cX6_reserve 59 = .ok (.iload_n 1, 1) := by decide +kernel
theorem dX6_reserve_60 : decode cX6_reserve 60 = .ok (.iload_n 2, 1) := by decide +kernel
theorem dX6_reserve_61 : decode cX6_reserve 61 = .ok (.invokevirtual 132, 3) := by decide +kernel
theorem dX6_reserve_64 : decode cX6_reserve 64 = .ok (.astore 7, 2) := by decide +kernel
theorem dX6_reserve_66 : decode cX6_reserve 66 = .ok (.aload 7, 2) := by decide +kernel
theorem dX6_reserve_68 : decode cX6_reserve 68 = .ok (.ifnonnull 10, 3) := by decide +kernel
theorem dX6_reserve_71 : decode cX6_reserve 71 = .ok (.aload_n 0, 1) := by decide +kernel
theorem dX6_reserve_72 : decode cX6_reserve 72 = .ok (.bipush (-2), 2) := by decide +kernel
theorem dX6_reserve_74 : decode cX6_reserve 74 = .ok (.invokevirtual 58, 3) := by decide +kernel
theorem dX6_reserve_77 : decode cX6_reserve 77 = .ok (.ireturn, 1) := by decide +kernel
theorem dX6_reserve_78 : decode cX6_reserve 78 = .ok (.aload_n 0, 1) := by decide +kernel
theorem dX6_reserve_79 : decode cX6_reserve 79 = .ok (.bipush 7, 2) := by decide +kernel
theorem dX6_reserve_81 : decode cX6_reserve 81 = .ok (.invokevirtual 65, 3) := by decide +kernel
theorem dX6_reserve_84 : decode cX6_reserve 84 = .ok (.aload 7, 2) := by decide +kernel
theorem dX6_reserve_86 : decode cX6_reserve 86 = .ok (.getfield 159, 3) := by decide +kernel
theorem dX6_reserve_89 : decode cX6_reserve 89 = .ok (.getfield 163, 3) := by decide +kernel
theorem dX6_reserve_92 : decode cX6_reserve 92 = .ok (.ifCond .ne 7, 3) := by decide +kernel
theorem dX6_reserve_95 : decode cX6_reserve 95 = .ok (.iconst 0, 1) := by decide +kernel
theorem dX6_reserve_96 : decode cX6_reserve 96 = .ok (.goto 4, 3) := by decide +kernel
theorem dX6_reserve_99 : decode cX6_reserve 99 = .ok (.iconst 1, 1) := by decide +kernel
theorem dX6_reserve_100 : decode cX6_reserve 100 = .ok (.istore 8, 2) := by decide +kernel
theorem dX6_reserve_102 : decode cX6_reserve 102 = .ok (.iload_n 3, 1) := by decide +kernel
theorem dX6_reserve_103 : decode cX6_reserve 103 = .ok (.ifCond .ne 17, 3) := by decide +kernel
theorem dX6_reserve_106 : decode cX6_reserve 106 = .ok (.aload 7, 2) := by decide +kernel
theorem dX6_reserve_108 : decode cX6_reserve 108 = .ok (.getfield 159, 3) := by decide +kernel
theorem dX6_reserve_111 : decode cX6_reserve 111 = .ok (.iconst 0, 1) := by decide +kernel
theorem dX6_reserve_112 : decode cX6_reserve 112 = .ok (.iconst 0, 1) := by decide +kernel
theorem dX6_reserve_113 : decode cX6_reserve 113 = .ok (.iconst 0, 1) := by decide +kernel
theorem dX6_reserve_114 : decode cX6_reserve 114 = .ok (.invokevirtual 168, 3) := by decide +kernel
theorem dX6_reserve_117 : decode cX6_reserve 117 = .ok (.goto 16, 3) := by decide +kernel
theorem dX6_reserve_120 : decode cX6_reserve 120 = .ok (.aload 7, 2) := by decide +kernel
theorem dX6_reserve_122 : decode cX6_reserve 122 = .ok (.getfield 159, 3) := by decide +kernel
theorem dX6_reserve_125 : decode cX6_reserve 125 = .ok (.iload_n 3, 1) := by decide +kernel
theorem dX6_reserve_126 : decode cX6_reserve 126 = .ok (.iload 4, 2) := by decide +kernel
theorem dX6_reserve_128 : decode cX6_reserve 128 = .ok (.iload 5, 2) := by decide +kernel
theorem dX6_reserve_130 : decode cX6_reserve 130 = .ok (.invokevirtual 168, 3) := by decide +kernel
theorem dX6_reserve_133 : decode cX6_reserve 133 = .ok (.aload_n 0, 1) := by decide +kernel
theorem dX6_reserve_134 : decode cX6_reserve 134 = .ok (.iload 8, 2) := by decide +kernel
theorem dX6_reserve_136 : decode cX6_reserve 136 = .ok (.invokevirtual 72, 3) := by decide +kernel
theorem dX6_reserve_139 : decode cX6_reserve 139 = .ok (.ireturn, 1) := by decide +kernel
theorem dX6_sniff_0 : decode cX6_sniff 0 = .ok (.iload_n 3, 1) := by decide +kernel
theorem dX6_sniff_1 : decode cX6_sniff 1 = .ok (.ifCond .eq 24, 3) := by decide +kernel
theorem dX6_sniff_4 : decode cX6_sniff 4 = .ok (.iload_n 3, 1) := by decide +kernel
theorem dX6_sniff_5 : decode cX6_sniff 5 = .ok (.bipush 8, 2) := by decide +kernel
theorem dX6_sniff_7 : decode cX6_sniff 7 = .ok (.bipush 64, 2) := by decide +kernel
theorem dX6_sniff_9 : decode cX6_sniff 9 = .ok (.invokestatic 156, 3) := by decide +kernel
theorem dX6_sniff_12 : decode cX6_sniff 12 = .ok (.ifCond .eq 17, 3) := by decide +kernel
theorem dX6_sniff_15 : decode cX6_sniff 15 = .ok (.iload 4, 2) := by decide +kernel
theorem dX6_sniff_17 : decode cX6_sniff 17 = .ok (.iconst 1, 1) := by decide +kernel
theorem dX6_sniff_18 : decode cX6_sniff 18 = .ok (.iconst 4, 1) := by decide +kernel
theorem dX6_sniff_19 : decode cX6_sniff 19 = .ok (.invokestatic 54, 3) := by decide +kernel
theorem dX6_sniff_22 : decode cX6_sniff 22 = .ok (.ifCond .eq 7, 3) := by decide +kernel
theorem dX6_sniff_25 : decode cX6_sniff 25 = .ok (.iconst 1, 1) := by decide +kernel
theorem dX6_sniff_26 : decode cX6_sniff 26 = .ok (.goto 4, 3) := by decide +kernel
theorem dX6_sniff_29 : decode cX6_sniff 29 = .ok (.iconst 0, 1) := by decide +kernel
theorem dX6_sniff_30 : decode cX6_sniff 30 = .ok (.istore 5, 2) := by decide +kernel
theorem dX6_sniff_32 : decode cX6_sniff 32 = .ok (.iload 5, 2) := by decide +kernel
theorem dX6_sniff_34 : decode cX6_sniff 34 = .ok (.ifCond .ne 9, 3) := by decide +kernel
theorem dX6_sniff_37 : decode cX6_sniff 37 = .ok (.aload_n 0, 1) := by decide +kernel
theorem dX6_sniff_38 : decode cX6_sniff 38 = .ok (.iconst (-1), 1) := by decide +kernel
theorem dX6_sniff_39 : decode cX6_sniff 39 = .ok (.invokevirtual 58, 3) := by decide +kernel
theorem dX6_sniff_42 : decode cX6_sniff 42 = .ok (.ireturn, 1) := by decide +kernel
theorem dX6_sniff_43 : decode cX6_sniff 43 = .ok (.aload_n 0, 1) := by decide +kernel
theorem dX6_sniff_44 : decode cX6_sniff 44 = .ok (.getfield 12, 3) := by decide +kernel
theorem dX6_sniff_47 : decode cX6_sniff 47 = .ok (.iload_n 1, 1) := by decide +kernel
theorem dX6_sniff_48 : decode cX6_sniff 48 = .ok (.iload_n 2, 1) := by decide +kernel
theorem dX6_sniff_49 : decode cX6_sniff 49 = .ok (.invokevirtual 132, 3) := by decide +kernel
theorem dX6_sniff_52 : decode cX6_sniff 52 = .ok (.astore 6, 2) := by decide +kernel
theorem dX6_sniff_54 : decode cX6_sniff 54 = .ok (.aload 6, 2) := by decide +kernel
theorem dX6_sniff_56 : decode cX6_sniff 56 = .ok (.ifnonnull 10, 3) := by decide +kernel
theorem dX6_sniff_59 : decode cX6_sniff 59 = .ok (.aload_n 0, 1) := by decide +kernel
theorem dX6_sniff_60 : decode cX6_sniff 60 = .ok (.bipush (-2), 2) := by decide +kernel
theorem dX6_sniff_62 : decode cX6_sniff 62 = .ok (.invokevirtual 58, 3) := by decide +kernel
theorem dX6_sniff_65 : decode cX6_sniff 65 = .ok (.ireturn, 1) := by decide +kernel
theorem dX6_sniff_66 : decode cX6_sniff 66 = .ok (.aload_n 0, 1) := by decide +kernel
theorem dX6_sniff_67 : decode cX6_sniff 67 = .ok (.bipush 10, 2) := by decide +kernel
theorem dX6_sniff_69 : decode cX6_sniff 69 = .ok (.invokevirtual 65, 3) := by decide +kernel
theorem dX6_sniff_72 : decode cX6_sniff 72 = .ok (.aload 6, 2) := by decide +kernel
theorem dX6_sniff_74 : decode cX6_sniff 74 = .ok (.getfield 172, 3) := by decide +kernel
theorem dX6_sniff_77 : decode cX6_sniff 77 = .ok (.istore 7, 2) := by decide +kernel
theorem dX6_sniff_79 : decode cX6_sniff 79 = .ok (.aload 6, 2) := by decide +kernel
theorem dX6_sniff_81 : decode cX6_sniff 81 = .ok (.iload_n 3, 1) := by decide +kernel
theorem dX6_sniff_82 : decode cX6_sniff 82 = .ok (.putfield 172, 3) := by decide +kernel
theorem dX6_sniff_85 : decode cX6_sniff 85 = .ok (.aload 6, 2) := by decide +kernel
theorem dX6_sniff_87 : decode cX6_sniff 87 = .ok (.iload_n 3, 1) := by decide +kernel
theorem dX6_sniff_88 : decode cX6_sniff 88 = .ok (.ifCond .ne 7, 3) := by decide +kernel
theorem dX6_sniff_91 : decode cX6_sniff 91 = .ok (.iconst 0, 1) := by decide +kernel
theorem dX6_sniff_92 : decode cX6_sniff 92 = .ok (.goto 5, 3) := by decide +kernel
theorem dX6_sniff_95 : decode cX6_sniff 95 = .ok (.iload 4, 2) := by decide +kernel
theorem dX6_sniff_97 : decode cX6_sniff 97 = .ok (.putfield 175, 3) := by decide +kernel
theorem dX6_sniff_100 : decode cX6_sniff 100 = .ok (.aload_n 0, 1) := by decide +kernel
theorem dX6_sniff_101 : decode cX6_sniff 101 = .ok (.iload 7, 2) := by decide +kernel
theorem dX6_sniff_103 : decode cX6_sniff 103 = .ok (.invokevirtual 72, 3) := by decide +kernel
theorem dX6_sniff_106 : decode cX6_sniff 106 = .ok (.ireturn, 1) := by decide +kernel
theorem dX6_weigh_0 : decode cX6_weigh 0 = .ok (.iload_n 3, 1) := by decide +kernel
theorem dX6_weigh_1 : decode cX6_weigh 1 = .ok (.iconst 1, 1) := by decide +kernel
theorem dX6_weigh_2 : decode cX6_weigh 2 = .ok (.iconst 4, 1) := by decide +kernel
theorem dX6_weigh_3 : decode cX6_weigh 3 = .ok (.invokestatic 54, 3) := by decide +kernel
theorem dX6_weigh_6 : decode cX6_weigh 6 = .ok (.ifCond .ne 9, 3) := by decide +kernel
theorem dX6_weigh_9 : decode cX6_weigh 9 = .ok (.aload_n 0, 1) := by decide +kernel
theorem dX6_weigh_10 : decode cX6_weigh 10 = .ok (.iconst (-1), 1) := by decide +kernel
theorem dX6_weigh_11 : decode cX6_weigh 11 = .ok (.invokevirtual 58, 3) := by decide +kernel
theorem dX6_weigh_14 : decode cX6_weigh 14 = .ok (.ireturn, 1) := by decide +kernel
theorem dX6_weigh_15 : decode cX6_weigh 15 = .ok (.aload_n 0, 1) := by decide +kernel
theorem dX6_weigh_16 : decode cX6_weigh 16 = .ok (.getfield 12, 3) := by decide +kernel
theorem dX6_weigh_19 : decode cX6_weigh 19 = .ok (.iload_n 1, 1) := by decide +kernel
theorem dX6_weigh_20 : decode cX6_weigh 20 = .ok (.iload_n 2, 1) := by decide +kernel
theorem dX6_weigh_21 : decode cX6_weigh 21 = .ok (.invokevirtual 132, 3) := by decide +kernel
theorem dX6_weigh_24 : decode cX6_weigh 24 = .ok (.astore 4, 2) := by decide +kernel
theorem dX6_weigh_26 : decode cX6_weigh 26 = .ok (.aload 4, 2) := by decide +kernel
theorem dX6_weigh_28 : decode cX6_weigh 28 = .ok (.ifnonnull 10, 3) := by decide +kernel
theorem dX6_weigh_31 : decode cX6_weigh 31 = .ok (.aload_n 0, 1) := by decide +kernel
theorem dX6_weigh_32 : decode cX6_weigh 32 = .ok (.bipush (-2), 2) := by decide +kernel
theorem dX6_weigh_34 : decode cX6_weigh 34 = .ok (.invokevirtual 58, 3) := by decide +kernel
theorem dX6_weigh_37 : decode cX6_weigh 37 = .ok (.ireturn, 1) := by decide +kernel
theorem dX6_weigh_38 : decode cX6_weigh 38 = .ok (.aload_n 0, 1) := by decide +kernel
theorem dX6_weigh_39 : decode cX6_weigh 39 = .ok (.bipush 12, 2) := by decide +kernel
theorem dX6_weigh_41 : decode cX6_weigh 41 = .ok (.invokevirtual 65, 3) := by decide +kernel
theorem dX6_weigh_44 : decode cX6_weigh 44 = .ok (.aload 4, 2) := by decide +kernel
theorem dX6_weigh_46 : decode cX6_weigh 46 = .ok (.getfield 178, 3) := by decide +kernel
theorem dX6_weigh_49 : decode cX6_weigh 49 = .ok (.istore 5, 2) := by decide +kernel
theorem dX6_weigh_51 : decode cX6_weigh 51 = .ok (.aload 4, 2) := by decide +kernel
theorem dX6_weigh_53 : decode cX6_weigh 53 = .ok (.iload_n 3, 1) := by decide +kernel
theorem dX6_weigh_54 : decode cX6_weigh 54 = .ok (.putfield 178, 3) := by decide +kernel
theorem dX6_weigh_57 : decode cX6_weigh 57 = .ok (.aload_n 0, 1) := by decide +kernel
theorem dX6_weigh_58 : decode cX6_weigh 58 = .ok (.iload 5, 2) := by decide +kernel
theorem dX6_weigh_60 : decode cX6_weigh 60 = .ok (.invokevirtual 72, 3) := by decide +kernel
theorem dX6_weigh_63 : decode cX6_weigh 63 = .ok (.ireturn, 1) := by decide +kernel
theorem dX6_cast_0 : decode cX6_cast 0 = .ok (.iload_n 2, 1) := by decide +kernel
theorem dX6_cast_1 : decode cX6_cast 1 = .ok (.iconst 0, 1) := by decide +kernel
theorem dX6_cast_2 : decode cX6_cast 2 = .ok (.sipush 255, 3) := by decide +kernel
theorem dX6_cast_5 : decode cX6_cast 5 = .ok (.invokestatic 54, 3) := by decide +kernel
theorem dX6_cast_8 : decode cX6_cast 8 = .ok (.ifCond .ne 9, 3) := by decide +kernel
theorem dX6_cast_11 : decode cX6_cast 11 = .ok (.aload_n 0, 1) := by decide +kernel
theorem dX6_cast_12 : decode cX6_cast 12 = .ok (.iconst (-1), 1) := by decide +kernel
theorem dX6_cast_13 : decode cX6_cast 13 = .ok (.invokevirtual 58, 3) := by decide +kernel
theorem dX6_cast_16 : decode cX6_cast 16 = .ok (.ireturn, 1) := by decide +kernel
theorem dX6_cast_17 : decode cX6_cast 17 = .ok (.aload_n 0, 1) := by decide +kernel
theorem dX6_cast_18 : decode cX6_cast 18 = .ok (.getfield 12, 3) := by decide +kernel
theorem dX6_cast_21 : decode cX6_cast 21 = .ok (.iload_n 1, 1) := by decide +kernel
theorem dX6_cast_22 : decode cX6_cast 22 = .ok (.invokevirtual 95, 3) := by decide +kernel
theorem dX6_cast_25 : decode cX6_cast 25 = .ok (.astore_n 3, 1) := by decide +kernel
theorem dX6_cast_26 : decode cX6_cast 26 = .ok (.aload_n 3, 1) := by decide +kernel
theorem dX6_cast_27 : decode cX6_cast 27 = .ok (.ifnonnull 10, 3) := by decide +kernel
theorem dX6_cast_30 : decode cX6_cast 30 = .ok (.aload_n 0, 1) := by decide +kernel
theorem dX6_cast_31 : decode cX6_cast 31 = .ok (.bipush (-2), 2) := by decide +kernel
theorem dX6_cast_33 : decode cX6_cast 33 = .ok (.invokevirtual 58, 3) := by decide +kernel
theorem dX6_cast_36 : decode cX6_cast 36 = .ok (.ireturn, 1) := by decide +kernel
theorem dX6_cast_37 : decode cX6_cast 37 = .ok (.aload_n 3, 1) := by decide +kernel
theorem dX6_cast_38 : decode cX6_cast 38 = .ok (.getfield 181, 3) := by decide +kernel
theorem dX6_cast_41 : decode cX6_cast 41 = .ok (.iconst 4, 1) := by decide +kernel
theorem dX6_cast_42 : decode cX6_cast 42 = .ok (.if_icmp .lt 10, 3) := by decide +kernel
theorem dX6_cast_45 : decode cX6_cast 45 = .ok (.aload_n 0, 1) := by decide +kernel
theorem dX6_cast_46 : decode cX6_cast 46 = .ok (.bipush (-5), 2) := by decide +kernel
theorem dX6_cast_48 : decode cX6_cast 48 = .ok (.invokevirtual 58, 3) := by decide +kernel
theorem dX6_cast_51 : decode cX6_cast 51 = .ok (.ireturn, 1) := by decide +kernel
theorem dX6_cast_52 : decode cX6_cast 52 = .ok (.aload_n 0, 1) := by decide +kernel
theorem dX6_cast_53 : decode cX6_cast 53 = .ok (.bipush 11, 2) := by decide +kernel
theorem dX6_cast_55 : decode cX6_cast 55 = .ok (.invokevirtual 65, 3) := by decide +kernel
theorem dX6_cast_58 : decode cX6_cast 58 = .ok (.aload_n 3, 1) := by decide +kernel
theorem dX6_cast_59 : decode cX6_cast 59 = .ok (.getfield 184, 3) := by decide +kernel
theorem dX6_cast_62 : decode cX6_cast 62 = .ok (.aload_n 3, 1) := by decide +kernel
theorem dX6_cast_63 : decode cX6_cast 63 = .ok (.getfield 181, 3) := by decide +kernel
theorem dX6_cast_66 : decode cX6_cast 66 = .ok (.iload_n 2, 1) := by decide +kernel
theorem dX6_cast_67 : decode cX6_cast 67 = .ok (.iastore, 1) := by decide +kernel
theorem dX6_cast_68 : decode cX6_cast 68 = .ok (.aload_n 3, 1) := by decide +kernel
theorem dX6_cast_69 : decode cX6_cast 69 = .ok (.dup, 1) := by decide +kernel
theorem dX6_cast_70 : decode cX6_cast 70 = .ok (.getfield 181, 3) := by decide +kernel
theorem dX6_cast_73 : decode cX6_cast 73 = .ok (.iconst 1, 1) := by decide +kernel
theorem dX6_cast_74 : decode cX6_cast 74 = .ok (.iadd, 1) := by decide +kernel
theorem dX6_cast_75 : decode cX6_cast 75 = .ok (.putfield 181, 3) := by decide +kernel
theorem dX6_cast_78 : decode cX6_cast 78 = .ok (.aload_n 0, 1) := by decide +kernel
theorem dX6_cast_79 : decode cX6_cast 79 = .ok (.aload_n 3, 1) := by decide +kernel
theorem dX6_cast_80 : decode cX6_cast 80 = .ok (.getfield 181, 3) := by decide +kernel
theorem dX6_cast_83 : decode cX6_cast 83 = .ok (.invokevirtual 72, 3) := by decide +kernel
theorem dX6_cast_86 : decode cX6_cast 86 = .ok (.ireturn, 1) := by decide +kernel
theorem dX6_map_0 : decode cX6_map 0 = .ok (.iload_n 2, 1) := by decide +kernel
theorem dX6_map_1 : decode cX6_map 1 = .ok (.invokestatic 187, 3) := by decide +kernel
theorem dX6_map_4 : decode cX6_map 4 = .ok (.ifCond .eq 13, 3) := by decide +kernel
theorem dX6_map_7 : decode cX6_map 7 = .ok (.iload_n 3, 1) := by decide +kernel
theorem dX6_map_8 : decode cX6_map 8 = .ok (.iconst 1, 1) := by decide +kernel
theorem dX6_map_9 : decode cX6_map 9 = .ok (.bipush 100, 2) := by decide +kernel
theorem dX6_map_11 : decode cX6_map 11 = .ok (.invokestatic 54, 3) := by decide +kernel
theorem dX6_map_14 : decode cX6_map 14 = .ok (.ifCond .ne 9, 3) := by decide +kernel
theorem dX6_map_17 : decode cX6_map 17 = .ok (.aload_n 0, 1) := by decide +kernel
theorem dX6_map_18 : decode cX6_map 18 = .ok (.iconst (-1), 1) := by decide +kernel
theorem dX6_map_19 : decode cX6_map 19 = .ok (.invokevirtual 58, 3) := by decide +kernel
theorem dX6_map_22 : decode cX6_map 22 = .ok (.ireturn, 1) := by decide +kernel
theorem dX6_map_23 : decode cX6_map 23 = .ok (.aload_n 0, 1) := by decide +kernel
theorem dX6_map_24 : decode cX6_map 24 = .ok (.getfield 12, 3) := by decide +kernel
theorem dX6_map_27 : decode cX6_map 27 = .ok (.iload_n 1, 1) := by decide +kernel
theorem dX6_map_28 : decode cX6_map 28 = .ok (.invokevirtual 95, 3) := by decide +kernel
theorem dX6_map_31 : decode cX6_map 31 = .ok (.astore 4, 2) := by decide +kernel
theorem dX6_map_33 : decode cX6_map 33 = .ok (.aload 4, 2) := by decide +kernel
theorem dX6_map_35 : decode cX6_map 35 = .ok (.ifnonnull 10, 3) := by decide +kernel
theorem dX6_map_38 : decode cX6_map 38 = .ok (.aload_n 0, 1) := by decide +kernel
theorem dX6_map_39 : decode cX6_map 39 = .ok (.bipush (-2), 2) := by decide +kernel
theorem dX6_map_41 : decode cX6_map 41 = .ok (.invokevirtual 58, 3) := by decide +kernel
theorem dX6_map_44 : decode cX6_map 44 = .ok (.ireturn, 1) := by decide +kernel
theorem dX6_map_45 : decode cX6_map 45 = .ok (.aload 4, 2) := by decide +kernel
theorem dX6_map_47 : decode cX6_map 47 = .ok (.getfield 190, 3) := by decide +kernel
theorem dX6_map_50 : decode cX6_map 50 = .ok (.invokevirtual 194, 3) := by decide +kernel
theorem dX6_map_53 : decode cX6_map 53 = .ok (.ifCond .eq 10, 3) := by decide +kernel
theorem dX6_map_56 : decode cX6_map 56 = .ok (.aload_n 0, 1) := by decide +kernel
theorem dX6_map_57 : decode cX6_map 57 = .ok (.bipush (-4), 2) := by decide +kernel
theorem dX6_map_59 : decode cX6_map 59 = .ok (.invokevirtual 58, 3) := by decide +kernel
theorem dX6_map_62 : decode cX6_map 62 = .ok (.ireturn, 1) := by decide +kernel
theorem dX6_map_63 : decode cX6_map 63 = .ok (.aload_n 0, 1) := by decide +kernel
theorem dX6_map_64 : decode cX6_map 64 = .ok (.aload 4, 2) := by decide +kernel
theorem dX6_map_66 : decode cX6_map 66 = .ok (.iload_n 2, 1) := by decide +kernel
theorem dX6_map_67 : decode cX6_map 67 = .ok (.iload_n 3, 1) := by decide +kernel
theorem dX6_map_68 : decode cX6_map 68 = .ok (.invokevirtual 199, 3) := by decide +kernel
theorem dX6_map_71 : decode cX6_map 71 = .ok (.ireturn, 1) := by decide +kernel
theorem dX6_adapt_0 : decode cX6_adapt 0 = .ok (.iload_n 2, 1) := by decide +kernel
theorem dX6_adapt_1 : decode cX6_adapt 1 = .ok (.iconst 1, 1) := by decide +kernel
theorem dX6_adapt_2 : decode cX6_adapt 2 = .ok (.bipush 99, 2) := by decide +kernel
theorem dX6_adapt_4 : decode cX6_adapt 4 = .ok (.invokestatic 54, 3) := by decide +kernel
theorem dX6_adapt_7 : decode cX6_adapt 7 = .ok (.ifCond .eq 13, 3) := by decide +kernel
theorem dX6_adapt_10 : decode cX6_adapt 10 = .ok (.iload_n 3, 1) := by decide +kernel
theorem dX6_adapt_11 : decode cX6_adapt 11 = .ok (.iconst 1, 1) := by decide +kernel
theorem dX6_adapt_12 : decode cX6_adapt 12 = .ok (.bipush 100, 2) := by decide +kernel
theorem dX6_adapt_14 : decode cX6_adapt 14 = .ok (.invokestatic 54, 3) := by decide +kernel
theorem dX6_adapt_17 : decode cX6_adapt 17 = .ok (.ifCond .ne 9, 3) := by decide +kernel
theorem dX6_adapt_20 : decode cX6_adapt 20 = .ok (.aload_n 0, 1) := by decide +kernel
theorem dX6_adapt_21 : decode cX6_adapt 21 = .ok (.iconst (-1), 1) := by decide +kernel
theorem dX6_adapt_22 : decode cX6_adapt 22 = .ok (.invokevirtual 58, 3) := by decide +kernel
theorem dX6_adapt_25 : decode cX6_adapt 25 = .ok (.ireturn, 1) := by decide +kernel
theorem dX6_adapt_26 : decode cX6_adapt 26 = .ok (.aload_n 0, 1) := by decide +kernel
theorem dX6_adapt_27 : decode cX6_adapt 27 = .ok (.getfield 12, 3) := by decide +kernel
theorem dX6_adapt_30 : decode cX6_adapt 30 = .ok (.iload_n 1, 1) := by decide +kernel
theorem dX6_adapt_31 : decode cX6_adapt 31 = .ok (.invokevirtual 95, 3) := by decide +kernel
theorem dX6_adapt_34 : decode cX6_adapt 34 = .ok (.astore 4, 2) := by decide +kernel
theorem dX6_adapt_36 : decode cX6_adapt 36 = .ok (.aload 4, 2) := by decide +kernel
theorem dX6_adapt_38 : decode cX6_adapt 38 = .ok (.ifnonnull 10, 3) := by decide +kernel
theorem dX6_adapt_41 : decode cX6_adapt 41 = .ok (.aload_n 0, 1) := by decide +kernel
theorem dX6_adapt_42 : decode cX6_adapt 42 = .ok (.bipush (-2), 2) := by decide +kernel
theorem dX6_adapt_44 : decode cX6_adapt 44 = .ok (.invokevirtual 58, 3) := by decide +kernel
theorem dX6_adapt_47 : decode cX6_adapt 47 = .ok (.ireturn, 1) := by decide +kernel
theorem dX6_adapt_48 : decode cX6_adapt 48 = .ok (.aload 4, 2) := by decide +kernel
theorem dX6_adapt_50 : decode cX6_adapt 50 = .ok (.iload_n 2, 1) := by decide +kernel
theorem dX6_adapt_51 : decode cX6_adapt 51 = .ok (.invokevirtual 203, 3) := by decide +kernel
theorem dX6_adapt_54 : decode cX6_adapt 54 = .ok (.istore 5, 2) := by decide +kernel
theorem dX6_adapt_56 : decode cX6_adapt 56 = .ok (.aload 4, 2) := by decide +kernel
theorem dX6_adapt_58 : decode cX6_adapt 58 = .ok (.getfield 190, 3) := by decide +kernel
theorem dX6_adapt_61 : decode cX6_adapt 61 = .ok (.invokevirtual 194, 3) := by decide +kernel
theorem dX6_adapt_64 : decode cX6_adapt 64 = .ok (.ifCond .ne 8, 3) := by decide +kernel
theorem dX6_adapt_67 : decode cX6_adapt 67 = .ok (.iload 5, 2) := by decide +kernel
theorem dX6_adapt_69 : decode cX6_adapt 69 = .ok (.ifCond .ne 10, 3) := by decide +kernel
theorem dX6_adapt_72 : decode cX6_adapt 72 = .ok (.aload_n 0, 1) := by decide +kernel
theorem dX6_adapt_73 : decode cX6_adapt 73 = .ok (.bipush (-4), 2) := by decide +kernel
theorem dX6_adapt_75 : decode cX6_adapt 75 = .ok (.invokevirtual 58, 3) := by decide +kernel
theorem dX6_adapt_78 : decode cX6_adapt 78 = .ok (.ireturn, 1) := by decide +kernel
theorem dX6_adapt_79 : decode cX6_adapt 79 = .ok (.aload 4, 2) := by decide +kernel
theorem dX6_adapt_81 : decode cX6_adapt 81 = .ok (.getfield 190, 3) := by decide +kernel
theorem dX6_adapt_84 : decode cX6_adapt 84 = .ok (.getfield 206, 3) := by decide +kernel
theorem dX6_adapt_87 : decode cX6_adapt 87 = .ok (.iload 5, 2) := by decide +kernel
theorem dX6_adapt_89 : decode cX6_adapt 89 = .ok (.iconst (-1), 1) := by decide +kernel
theorem dX6_adapt_90 : decode cX6_adapt 90 = .ok (.ixor, 1) := by decide +kernel
theorem dX6_adapt_91 : decode cX6_adapt 91 = .ok (.iand, 1) := by decide +kernel
theorem dX6_adapt_92 : decode cX6_adapt 92 = .ok (.istore 6, 2) := by decide +kernel
theorem dX6_adapt_94 : decode cX6_adapt 94 = .ok (.aload_n 0, 1) := by decide +kernel
theorem dX6_adapt_95 : decode cX6_adapt 95 = .ok (.aload 4, 2) := by decide +kernel
theorem dX6_adapt_97 : decode cX6_adapt 97 = .ok (.iload 6, 2) := by decide +kernel
theorem dX6_adapt_99 : decode cX6_adapt 99 = .ok (.invokestatic 187, 3) := by decide +kernel
theorem dX6_adapt_102 : decode cX6_adapt 102 = .ok (.ifCond .eq 8, 3) := by decide +kernel
theorem dX6_adapt_105 : decode cX6_adapt 105 = .ok (.iload 6, 2) := by decide +kernel
theorem dX6_adapt_107 : decode cX6_adapt 107 = .ok (.goto 8, 3) := by decide +kernel
theorem dX6_adapt_110 : decode cX6_adapt 110 = .ok (.aload 4, 2) := by decide +kernel
theorem dX6_adapt_112 : decode cX6_adapt 112 = .ok (.invokevirtual 209, 3) := by decide +kernel
theorem dX6_adapt_115 : decode cX6_adapt 115 = .ok (.iload_n 3, 1) := by decide +kernel
theorem dX6_adapt_116 : decode cX6_adapt 116 = .ok (.invokevirtual 199, 3) := by decide +kernel
theorem dX6_adapt_119 : decode cX6_adapt 119 = .ok (.ireturn, 1) := by decide +kernel
theorem dX6_run_0 : decode cX6_run 0 = .ok (.iload_n 1, 1) := by decide +kernel
theorem dX6_run_1 : decode cX6_run 1 = .ok (.iconst 1, 1) := by decide +kernel
theorem dX6_run_2 : decode cX6_run 2 = .ok (.sipush 200, 3) := by decide +kernel
theorem dX6_run_5 : decode cX6_run 5 = .ok (.invokestatic 54, 3) := by decide +kernel
theorem dX6_run_8 : decode cX6_run 8 = .ok (.ifCond .ne 9, 3) := by decide +kernel
theorem dX6_run_11 : decode cX6_run 11 = .ok (.aload_n 0, 1) := by decide +kernel
theorem dX6_run_12 : decode cX6_run 12 = .ok (.iconst (-1), 1) := by decide +kernel
theorem dX6_run_13 : decode cX6_run 13 = .ok (.invokevirtual 58, 3) := by decide +kernel
theorem dX6_run_16 : decode cX6_run 16 = .ok (.ireturn, 1) := by decide +kernel
theorem dX6_run_17 : decode cX6_run 17 = .ok (.aload_n 0, 1) := by decide +kernel
theorem dX6_run_18 : decode cX6_run 18 = .ok (.iload_n 1, 1) := by decide +kernel
theorem dX6_run_19 : decode cX6_run 19 = .ok (.invokevirtual 213, 3) := by decide +kernel
theorem dX6_run_22 : decode cX6_run 22 = .ok (.ifCond .ne 10, 3) := by decide +kernel
theorem dX6_run_25 : decode cX6_run 25 = .ok (.aload_n 0, 1) := by decide +kernel
theorem dX6_run_26 : decode cX6_run 26 = .ok (.bipush (-4), 2) := by decide +kernel
theorem dX6_run_28 : decode cX6_run 28 = .ok (.invokevirtual 58, 3) := by decide +kernel
theorem dX6_run_31 : decode cX6_run 31 = .ok (.ireturn, 1) := by decide +kernel
theorem dX6_run_32 : decode cX6_run 32 = .ok (.aload_n 0, 1) := by decide +kernel
theorem dX6_run_33 : decode cX6_run 33 = .ok (.bipush 9, 2) := by decide +kernel
theorem dX6_run_35 : decode cX6_run 35 = .ok (.invokevirtual 65, 3) := by decide +kernel
theorem dX6_run_38 : decode cX6_run 38 = .ok (.aload_n 0, 1) := by decide +kernel
theorem dX6_run_39 : decode cX6_run 39 = .ok (.aload_n 0, 1) := by decide +kernel
theorem dX6_run_40 : decode cX6_run 40 = .ok (.getfield 12, 3) := by decide +kernel
theorem dX6_run_43 : decode cX6_run 43 = .ok (.iload_n 1, 1) := by decide +kernel
theorem dX6_run_44 : decode cX6_run 44 = .ok (.invokevirtual 216, 3) := by decide +kernel
theorem dX6_run_47 : decode cX6_run 47 = .ok (.invokevirtual 72, 3) := by decide +kernel
theorem dX6_run_50 : decode cX6_run 50 = .ok (.ireturn, 1) := by decide +kernel
theorem dX6_undo_0 : decode cX6_undo 0 = .ok (.aload_n 0, 1) := by decide +kernel
theorem dX6_undo_1 : decode cX6_undo 1 = .ok (.getfield 38, 3) := by decide +kernel
theorem dX6_undo_4 : decode cX6_undo 4 = .ok (.ifCond .ne 10, 3) := by decide +kernel
theorem dX6_undo_7 : decode cX6_undo 7 = .ok (.aload_n 0, 1) := by decide +kernel
theorem dX6_undo_8 : decode cX6_undo 8 = .ok (.bipush (-4), 2) := by decide +kernel
theorem dX6_undo_10 : decode cX6_undo 10 = .ok (.invokevirtual 58, 3) := by decide +kernel
theorem dX6_undo_13 : decode cX6_undo 13 = .ok (.ireturn, 1) := by decide +kernel
theorem dX6_undo_14 : decode cX6_undo 14 = .ok (.aload_n 0, 1) := by decide +kernel
theorem dX6_undo_15 : decode cX6_undo 15 = .ok (.aload_n 0, 1) := by decide +kernel
theorem dX6_undo_16 : decode cX6_undo 16 = .ok (.getfield 34, 3) := by decide +kernel
theorem dX6_undo_19 : decode cX6_undo 19 = .ok (.bipush 8, 2) := by decide +kernel
theorem dX6_undo_21 : decode cX6_undo 21 = .ok (.iadd, 1) := by decide +kernel
theorem dX6_undo_22 : decode cX6_undo 22 = .ok (.iconst 1, 1) := by decide +kernel
theorem dX6_undo_23 : decode cX6_undo 23 = .ok (.isub, 1) := by decide +kernel
theorem dX6_undo_24 : decode cX6_undo 24 = .ok (.bipush 8, 2) := by decide +kernel
theorem dX6_undo_26 : decode cX6_undo 26 = .ok (.irem, 1) := by decide +kernel
theorem dX6_undo_27 : decode cX6_undo 27 = .ok (.putfield 34, 3) := by decide +kernel
theorem dX6_undo_30 : decode cX6_undo 30 = .ok (.aload_n 0, 1) := by decide +kernel
theorem dX6_undo_31 : decode cX6_undo 31 = .ok (.dup, 1) := by decide +kernel
theorem dX6_undo_32 : decode cX6_undo 32 = .ok (.getfield 38, 3) := by decide +kernel
theorem dX6_undo_35 : decode cX6_undo 35 = .ok (.iconst 1, 1) := by decide +kernel
theorem dX6_undo_36 : decode cX6_undo 36 = .ok (.isub, 1) := by decide +kernel
theorem dX6_undo_37 : decode cX6_undo 37 = .ok (.putfield 38, 3) := by decide +kernel
theorem dX6_undo_40 : decode cX6_undo 40 = .ok (.aload_n 0, 1) := by decide +kernel
theorem dX6_undo_41 : decode cX6_undo 41 = .ok (.getfield 12, 3) := by decide +kernel
theorem dX6_undo_44 : decode cX6_undo 44 = .ok (.aload_n 0, 1) := by decide +kernel
theorem dX6_undo_45 : decode cX6_undo 45 = .ok (.getfield 27, 3) := by decide +kernel
theorem dX6_undo_48 : decode cX6_undo 48 = .ok (.aload_n 0, 1) := by decide +kernel
theorem dX6_undo_49 : decode cX6_undo 49 = .ok (.getfield 34, 3) := by decide +kernel
theorem dX6_undo_52 : decode cX6_undo 52 = .ok (.aaload, 1) := by decide +kernel
theorem dX6_undo_53 : decode cX6_undo 53 = .ok (.invokevirtual 219, 3) := by decide +kernel
theorem dX6_undo_56 : decode cX6_undo 56 = .ok (.aload_n 0, 1) := by decide +kernel
theorem dX6_undo_57 : decode cX6_undo 57 = .ok (.aload_n 0, 1) := by decide +kernel
theorem dX6_undo_58 : decode cX6_undo 58 = .ok (.getfield 30, 3) := by decide +kernel
theorem dX6_undo_61 : decode cX6_undo 61 = .ok (.aload_n 0, 1) := by decide +kernel
theorem dX6_undo_62 : decode cX6_undo 62 = .ok (.getfield 34, 3) := by decide +kernel
theorem dX6_undo_65 : decode cX6_undo 65 = .ok (.iaload, 1) := by decide +kernel
theorem dX6_undo_66 : decode cX6_undo 66 = .ok (.invokevirtual 72, 3) := by decide +kernel
theorem dX6_undo_69 : decode cX6_undo 69 = .ok (.ireturn, 1) := by decide +kernel
theorem dX6_image_0 : decode cX6_image 0 = .ok (.iload_n 1, 1) := by decide +kernel
theorem dX6_image_1 : decode cX6_image 1 = .ok (.iconst 0, 1) := by decide +kernel
theorem dX6_image_2 : decode cX6_image 2 = .ok (.iconst 1, 1) := by decide +kernel
theorem dX6_image_3 : decode cX6_image 3 = .ok (.invokestatic 54, 3) := by decide +kernel
theorem dX6_image_6 : decode cX6_image 6 = .ok (.ifCond .ne 9, 3) := by decide +kernel
theorem dX6_image_9 : decode cX6_image 9 = .ok (.aload_n 0, 1) := by decide +kernel
theorem dX6_image_10 : decode cX6_image 10 = .ok (.iconst (-1), 1) := by decide +kernel
theorem dX6_image_11 : decode cX6_image 11 = .ok (.invokevirtual 58, 3) := by decide +kernel
theorem dX6_image_14 : decode cX6_image 14 = .ok (.ireturn, 1) := by decide +kernel
theorem dX6_image_15 : decode cX6_image 15 = .ok (.aload_n 0, 1) := by decide +kernel
theorem dX6_image_16 : decode cX6_image 16 = .ok (.getfield 19, 3) := by decide +kernel
theorem dX6_image_19 : decode cX6_image 19 = .ok (.iload_n 1, 1) := by decide +kernel
theorem dX6_image_20 : decode cX6_image 20 = .ok (.aaload, 1) := by decide +kernel
theorem dX6_image_21 : decode cX6_image 21 = .ok (.aload_n 0, 1) := by decide +kernel
theorem dX6_image_22 : decode cX6_image 22 = .ok (.getfield 12, 3) := by decide +kernel
theorem dX6_image_25 : decode cX6_image 25 = .ok (.invokevirtual 219, 3) := by decide +kernel
theorem dX6_image_28 : decode cX6_image 28 = .ok (.aload_n 0, 1) := by decide +kernel
theorem dX6_image_29 : decode cX6_image 29 = .ok (.getfield 23, 3) := by decide +kernel
theorem dX6_image_32 : decode cX6_image 32 = .ok (.iload_n 1, 1) := by decide +kernel
theorem dX6_image_33 : decode cX6_image 33 = .ok (.iconst 1, 1) := by decide +kernel
theorem dX6_image_34 : decode cX6_image 34 = .ok (.bastore, 1) := by decide +kernel
theorem dX6_image_35 : decode cX6_image 35 = .ok (.aload_n 0, 1) := by decide +kernel
theorem dX6_image_36 : decode cX6_image 36 = .ok (.aload_n 0, 1) := by decide +kernel
theorem dX6_image_37 : decode cX6_image 37 = .ok (.getfield 12, 3) := by decide +kernel
theorem dX6_image_40 : decode cX6_image 40 = .ok (.getfield 102, 3) := by decide +kernel
theorem dX6_image_43 : decode cX6_image 43 = .ok (.invokevirtual 72, 3) := by decide +kernel
theorem dX6_image_46 : decode cX6_image 46 = .ok (.ireturn, 1) := by decide +kernel
theorem dX6_back_0 : decode cX6_back 0 = .ok (.iload_n 1, 1) := by decide +kernel
theorem dX6_back_1 : decode cX6_back 1 = .ok (.iconst 0, 1) := by decide +kernel
theorem dX6_back_2 : decode cX6_back 2 = .ok (.iconst 1, 1) := by decide +kernel
theorem dX6_back_3 : decode cX6_back 3 = .ok (.invokestatic 54, 3) := by decide +kernel
theorem dX6_back_6 : decode cX6_back 6 = .ok (.ifCond .ne 9, 3) := by decide +kernel
theorem dX6_back_9 : decode cX6_back 9 = .ok (.aload_n 0, 1) := by decide +kernel
theorem dX6_back_10 : decode cX6_back 10 = .ok (.iconst (-1), 1) := by decide +kernel
theorem dX6_back_11 : decode cX6_back 11 = .ok (.invokevirtual 58, 3) := by decide +kernel
theorem dX6_back_14 : decode cX6_back 14 = .ok (.ireturn, 1) := by decide +kernel
theorem dX6_back_15 : decode cX6_back 15 = .ok (.aload_n 0, 1) := by decide +kernel
theorem dX6_back_16 : decode cX6_back 16 = .ok (.getfield 23, 3) := by decide +kernel
theorem dX6_back_19 : decode cX6_back 19 = .ok (.iload_n 1, 1) := by decide +kernel
theorem dX6_back_20 : decode cX6_back 20 = .ok (.baload, 1) := by decide +kernel
theorem dX6_back_21 : decode cX6_back 21 = .ok (.ifCond .ne 10, 3) := by decide +kernel
theorem dX6_back_24 : decode cX6_back 24 = .ok (.aload_n 0, 1) := by decide +kernel
theorem dX6_back_25 : decode cX6_back 25 = .ok (.bipush (-4), 2) := by decide +kernel
theorem dX6_back_27 : decode cX6_back 27 = .ok (.invokevirtual 58, 3) := by decide +kernel
theorem dX6_back_30 : decode cX6_back 30 = .ok (.ireturn, 1) := by decide +kernel
theorem dX6_back_31 : decode cX6_back 31 = .ok (.aload_n 0, 1) := by decide +kernel
theorem dX6_back_32 : decode cX6_back 32 = .ok (.getfield 12, 3) := by decide +kernel
theorem dX6_back_35 : decode cX6_back 35 = .ok (.aload_n 0, 1) := by decide +kernel
theorem dX6_back_36 : decode cX6_back 36 = .ok (.getfield 19, 3) := by decide +kernel
theorem dX6_back_39 : decode cX6_back 39 = .ok (.iload_n 1, 1) := by decide +kernel
theorem dX6_back_40 : decode cX6_back 40 = .ok (.aaload, 1) := by decide +kernel
theorem dX6_back_41 : decode cX6_back 41 = .ok (.invokevirtual 219, 3) := by decide +kernel
theorem dX6_back_44 : decode cX6_back 44 = .ok (.aload_n 0, 1) := by decide +kernel
theorem dX6_back_45 : decode cX6_back 45 = .ok (.iconst 0, 1) := by decide +kernel
theorem dX6_back_46 : decode cX6_back 46 = .ok (.putfield 38, 3) := by decide +kernel
theorem dX6_back_49 : decode cX6_back 49 = .ok (.aload_n 0, 1) := by decide +kernel
theorem dX6_back_50 : decode cX6_back 50 = .ok (.aload_n 0, 1) := by decide +kernel
theorem dX6_back_51 : decode cX6_back 51 = .ok (.getfield 12, 3) := by decide +kernel
theorem dX6_back_54 : decode cX6_back 54 = .ok (.getfield 102, 3) := by decide +kernel
theorem dX6_back_57 : decode cX6_back 57 = .ok (.invokevirtual 72, 3) := by decide +kernel
theorem dX6_back_60 : decode cX6_back 60 = .ok (.ireturn, 1) := by decide +kernel
theorem dX6_kernel_0 : decode cX6_kernel 0 = .ok (.iload_n 1, 1) := by decide +kernel
theorem dX6_kernel_1 : decode cX6_kernel 1 = .ok (.iconst 0, 1) := by decide +kernel
theorem dX6_kernel_2 : decode cX6_kernel 2 = .ok (.ldc 53, 2) := by decide +kernel
theorem dX6_kernel_4 : decode cX6_kernel 4 = .ok (.invokestatic 54, 3) := by decide +kernel
theorem dX6_kernel_7 : decode cX6_kernel 7 = .ok (.ifCond .eq 13, 3) := by decide +kernel
theorem dX6_kernel_10 : decode cX6_kernel 10 = .ok (.iload_n 2, 1) := by decide +kernel
theorem dX6_kernel_11 : decode cX6_kernel 11 = .ok (.iconst 0, 1) := by decide +kernel
theorem dX6_kernel_12 : decode cX6_kernel 12 = .ok (.ldc 223, 2) := by decide +kernel
theorem dX6_kernel_14 : decode cX6_kernel 14 = .ok (.invokestatic 54, 3) := by decide +kernel
theorem dX6_kernel_17 : decode cX6_kernel 17 = .ok (.ifCond .ne 5, 3) := by decide +kernel
theorem dX6_kernel_20 : decode cX6_kernel 20 = .ok (.iconst (-1), 1) := by decide +kernel
theorem dX6_kernel_21 : decode cX6_kernel 21 = .ok (.ireturn, 1) := by decide +kernel
theorem dX6_kernel_22 : decode cX6_kernel 22 = .ok (.iload_n 1, 1) := by decide +kernel
theorem dX6_kernel_23 : decode cX6_kernel 23 = .ok (.iload_n 2, 1) := by decide +kernel
theorem dX6_kernel_24 : decode cX6_kernel 24 = .ok (.invokestatic 224, 3) := by decide +kernel
theorem dX6_kernel_27 : decode cX6_kernel 27 = .ok (.ireturn, 1) := by decide +kernel
theorem lk_RX6_168 : LkV RX6 168 RX0 yX0_set cX0_set 4 none 3 := ⟨⟨mw_590, mw_537, mw_538, mw_58, mw_539⟩, by decide +kernel⟩
set_option maxHeartbeats 4000000 in
set_option maxRecDepth 100000 in
theorem d_X6_reserve (l : Launch) (E : hE) (ρ r : Nat → Nat → Int32) (a1 : Int32) (a2 : Int32) (a3 : Int32) (a4 : Int32) (a5 : Int32) (hI : CI r S0 ρ) : Met l yX6_reserve (.code yX6_reserve cX6_reserve 9 (some .int) :: gw_all) (rmk 7 280) (cPre E ρ [.ref (E.2.1 + 0), .int a1, .int a2, .int a3, .int a4, .int a5]) (cI E (fun v ρ1 => CI r S0 ρ1)) 0 0 (hA E) := by
  refine ent (own := RX6) (by decide) rfl (Nat.le_of_ble_eq_true rfl) ?_
  intro p e s m below meth c ls B hr hlk hl hP hS
  have hx := B.1.1
  have hb := B.1.2.1
  have hown := B.1.2.2.2.1
  have hts := B.1.2.2.2.2
  have hl : lv_has ls 9 [(0, .ref (E.2.1 + 0)), (1, .int a1), (2, .int a2), (3, .int a3), (4, .int a4), (5, .int a5)] := hl
  have b133_0 : ∀ (ls : Array Slot) (ρ : Nat → Nat → Int32) (H : Heap) (locs : List Loc) (j133_8 : Nat), lv_has ls 9 [(0, .ref (E.2.1 + 0)), (8, .int (nI j133_8))] → WP E ρ H → va_S (hA E) s.heap H locs → CI r S0 ρ → 0 ≤ j133_8 → j133_8 ≤ 1 → iR a1 (0) (1) → iR a3 (0) (40) → W p l e (rmk 7 280) s m ([.ref (E.2.1 + 0), .int a1, .int a2, .int a3, .int a4, .int a5] : List Value).toArray below meth c H locs 0 0 (MQ below (cI E (fun v ρ1 => CI r S0 ρ1)) ([.ref (E.2.1 + 0), .int a1, .int a2, .int a3, .int a4, .int a5] : List Value).toArray s 0 0 (hA E)) (F0 m 133 ls []) := by
    intro ls ρ H locs j133_8 hl hP hS hI lj133_8 uj133_8 fa1 fa3
    refine lv_aload_n hx hb dX6_reserve_133 rfl (lv_at hl 0 rfl) ?_
    refine lv_iload hx hb dX6_reserve_134 (lv_at hl 1 rfl) ?_
    refine call_i (cVt (k := 0) (av := [.int (nI j133_8)]) (rest := []) B hP hS (d_X6_accept l E ρ r (nI j133_8) hI) lk_RX6_72 (hrecv (ci := 6) B hP (hk_lt (c := 6) (show hk 0 = 6 by decide +kernel) (by decide)) (hcc6 _ _ (show hk 0 = 6 by decide +kernel)) rfl) rfl rfl hl.1 (Nat.le_of_ble_eq_true rfl) ⟨Nat.le_of_ble_eq_true rfl, Nat.le_of_ble_eq_true rfl⟩ ⟨Nat.le_of_ble_eq_true rfl, Nat.le_of_ble_eq_true rfl⟩ dX6_reserve_136) hS (fun r75 ρ76 H locs q77 hP hS => ?_)
    have hI := q77
    exact ret_i B hr hlk hP hS dX6_reserve_139 (hI)
  have b100_0 : ∀ (ls : Array Slot) (ρ : Nat → Nat → Int32) (H : Heap) (locs : List Loc) (k100_7 : Nat), lv_has ls 9 [(0, .ref (E.2.1 + 0)), (3, .int a3), (4, .int a4), (5, .int a5), (7, .ref (E.2.1 + k100_7))] → WP E ρ H → va_S (hA E) s.heap H locs → CI r S0 ρ → hk k100_7 = 1 → iR a1 (0) (1) → iR a3 (0) (40) → W p l e (rmk 7 280) s m ([.ref (E.2.1 + 0), .int a1, .int a2, .int a3, .int a4, .int a5] : List Value).toArray below meth c H locs 0 0 (MQ below (cI E (fun v ρ1 => CI r S0 ρ1)) ([.ref (E.2.1 + 0), .int a1, .int a2, .int a3, .int a4, .int a5] : List Value).toArray s 0 0 (hA E)) (F0 m 100 ls [.int 0]) := by
    intro ls ρ H locs k100_7 hl hP hS hI hk100_7 fa1 fa3
    refine lv_istore (lv' := [(8, .int 0), (0, .ref (E.2.1 + 0)), (3, .int a3), (4, .int a4), (5, .int a5), (7, .ref (E.2.1 + k100_7))]) hx hb dX6_reserve_100 hl (by decide) rfl (fun ls hl => ?_)
    refine lv_iload_n hx hb dX6_reserve_102 rfl (lv_at hl 2 rfl) ?_
    obtain ⟨j79, lj79, uj79, ej79⟩ := iR_nat (a := 0) (b := 40) fa3
    refine lv_topi (fun z80 ez80 => ?_)
    obtain rfl : z80 = nI j79 := ez80.trans ej79
    refine lv_if_ne (tgt := 120) hx hb dX6_reserve_103 (by decide) (fun c81 => ?_) (fun c81 => ?_)
    · skip
      have n82 := mt (nI_eq (a := j79) (b := 0) (by omega) (by omega)).mpr (show ¬ (nI j79 = nI 0) from c81)
      refine lv_aload hx hb dX6_reserve_120 (lv_at hl 5 rfl) ?_
      refine get1 B hP hk100_7 3 (by decide) mw_204 rfl dX6_reserve_122 ?_
      refine lv_iload_n hx hb dX6_reserve_125 rfl (lv_at hl 2 rfl) ?_
      refine lv_topi (fun z83 ez83 => ?_)
      obtain rfl : z83 = nI j79 := ez83.trans ej79
      refine lv_iload hx hb dX6_reserve_126 (lv_at hl 3 rfl) ?_
      refine lv_iload hx hb dX6_reserve_128 (lv_at hl 4 rfl) ?_
      refine call_v (cVt (k := (k100_7 + 8)) (av := [.int (nI j79), .int a4, .int a5]) (rest := []) B hP hS (d_X0_set l E ρ r S0 hS0 (k100_7 + 8) (lay1 hk100_7).2.2.2 (nI j79) a4 a5 hI) lk_RX6_168 (hrecv (ci := 0) B hP (hk_lt (c := 0) (lay1 hk100_7).2.2.2 (by decide)) (hcc0 _ _ (lay1 hk100_7).2.2.2) rfl) rfl rfl hl.1 (Nat.le_of_ble_eq_true rfl) ⟨Nat.le_of_ble_eq_true rfl, Nat.le_of_ble_eq_true rfl⟩ ⟨Nat.le_of_ble_eq_true rfl, Nat.le_of_ble_eq_true rfl⟩ dX6_reserve_130) hS (fun ρ85 H locs q86 hP hS => ?_)
      have hI := q86
      exact b133_0 ls ρ85 _ _ 0 (lv_sub hl [1, 0] rfl) hP hS hI (by omega) (by omega) (iR_w fa1 (by decide) (by decide)) (iR_w fa3 (by decide) (by decide))
    · skip
      have n88 := (nI_eq (a := j79) (b := 0) (by omega) (by omega)).mp (show (nI j79 = nI 0) from c81)
      refine lv_aload hx hb dX6_reserve_106 (lv_at hl 5 rfl) ?_
      refine get1 B hP hk100_7 3 (by decide) mw_204 rfl dX6_reserve_108 ?_
      refine lv_iconst (v := 0) hx hb dX6_reserve_111 (by decide) ?_
      refine lv_iconst (v := 0) hx hb dX6_reserve_112 (by decide) ?_
      refine lv_iconst (v := 0) hx hb dX6_reserve_113 (by decide) ?_
      refine call_v (cVt (k := (k100_7 + 8)) (av := [.int 0, .int 0, .int 0]) (rest := []) B hP hS (d_X0_set l E ρ r S0 hS0 (k100_7 + 8) (lay1 hk100_7).2.2.2 0 0 0 hI) lk_RX6_168 (hrecv (ci := 0) B hP (hk_lt (c := 0) (lay1 hk100_7).2.2.2 (by decide)) (hcc0 _ _ (lay1 hk100_7).2.2.2) rfl) rfl rfl hl.1 (Nat.le_of_ble_eq_true rfl) ⟨Nat.le_of_ble_eq_true rfl, Nat.le_of_ble_eq_true rfl⟩ ⟨Nat.le_of_ble_eq_true rfl, Nat.le_of_ble_eq_true rfl⟩ dX6_reserve_114) hS (fun ρ90 H locs q91 hP hS => ?_)
      have hI := q91
      refine lv_goto (tgt := 133) hx hb dX6_reserve_117 (by decide) ?_
      exact b133_0 ls ρ90 _ _ 0 (lv_sub hl [1, 0] rfl) hP hS hI (by omega) (by omega) (iR_w fa1 (by decide) (by decide)) (iR_w fa3 (by decide) (by decide))
  have b100_1 : ∀ (ls : Array Slot) (ρ : Nat → Nat → Int32) (H : Heap) (locs : List Loc) (k100_7 : Nat), lv_has ls 9 [(0, .ref (E.2.1 + 0)), (3, .int a3), (4, .int a4), (5, .int a5), (7, .ref (E.2.1 + k100_7))] → WP E ρ H → va_S (hA E) s.heap H locs → CI r S0 ρ → hk k100_7 = 1 → iR a1 (0) (1) → iR a3 (0) (40) → W p l e (rmk 7 280) s m ([.ref (E.2.1 + 0), .int a1, .int a2, .int a3, .int a4, .int a5] : List Value).toArray below meth c H locs 0 0 (MQ below (cI E (fun v ρ1 => CI r S0 ρ1)) ([.ref (E.2.1 + 0), .int a1, .int a2, .int a3, .int a4, .int a5] : List Value).toArray s 0 0 (hA E)) (F0 m 100 ls [.int 1]) := by
    intro ls ρ H locs k100_7 hl hP hS hI hk100_7 fa1 fa3
    refine lv_istore (lv' := [(8, .int 1), (0, .ref (E.2.1 + 0)), (3, .int a3), (4, .int a4), (5, .int a5), (7, .ref (E.2.1 + k100_7))]) hx hb dX6_reserve_100 hl (by decide) rfl (fun ls hl => ?_)
    refine lv_iload_n hx hb dX6_reserve_102 rfl (lv_at hl 2 rfl) ?_
    obtain ⟨j93, lj93, uj93, ej93⟩ := iR_nat (a := 0) (b := 40) fa3
    refine lv_topi (fun z94 ez94 => ?_)
    obtain rfl : z94 = nI j93 := ez94.trans ej93
    refine lv_if_ne (tgt := 120) hx hb dX6_reserve_103 (by decide) (fun c95 => ?_) (fun c95 => ?_)
    · skip
      have n96 := mt (nI_eq (a := j93) (b := 0) (by omega) (by omega)).mpr (show ¬ (nI j93 = nI 0) from c95)
      refine lv_aload hx hb dX6_reserve_120 (lv_at hl 5 rfl) ?_
      refine get1 B hP hk100_7 3 (by decide) mw_204 rfl dX6_reserve_122 ?_
      refine lv_iload_n hx hb dX6_reserve_125 rfl (lv_at hl 2 rfl) ?_
      refine lv_topi (fun z97 ez97 => ?_)
      obtain rfl : z97 = nI j93 := ez97.trans ej93
      refine lv_iload hx hb dX6_reserve_126 (lv_at hl 3 rfl) ?_
      refine lv_iload hx hb dX6_reserve_128 (lv_at hl 4 rfl) ?_
      refine call_v (cVt (k := (k100_7 + 8)) (av := [.int (nI j93), .int a4, .int a5]) (rest := []) B hP hS (d_X0_set l E ρ r S0 hS0 (k100_7 + 8) (lay1 hk100_7).2.2.2 (nI j93) a4 a5 hI) lk_RX6_168 (hrecv (ci := 0) B hP (hk_lt (c := 0) (lay1 hk100_7).2.2.2 (by decide)) (hcc0 _ _ (lay1 hk100_7).2.2.2) rfl) rfl rfl hl.1 (Nat.le_of_ble_eq_true rfl) ⟨Nat.le_of_ble_eq_true rfl, Nat.le_of_ble_eq_true rfl⟩ ⟨Nat.le_of_ble_eq_true rfl, Nat.le_of_ble_eq_true rfl⟩ dX6_reserve_130) hS (fun ρ99 H locs q100 hP hS => ?_)
      have hI := q100
      exact b133_0 ls ρ99 _ _ 1 (lv_sub hl [1, 0] rfl) hP hS hI (by omega) (by omega) (iR_w fa1 (by decide) (by decide)) (iR_w fa3 (by decide) (by decide))
    · skip
      have n102 := (nI_eq (a := j93) (b := 0) (by omega) (by omega)).mp (show (nI j93 = nI 0) from c95)
      refine lv_aload hx hb dX6_reserve_106 (lv_at hl 5 rfl) ?_
      refine get1 B hP hk100_7 3 (by decide) mw_204 rfl dX6_reserve_108 ?_
      refine lv_iconst (v := 0) hx hb dX6_reserve_111 (by decide) ?_
      refine lv_iconst (v := 0) hx hb dX6_reserve_112 (by decide) ?_
      refine lv_iconst (v := 0) hx hb dX6_reserve_113 (by decide) ?_
      refine call_v (cVt (k := (k100_7 + 8)) (av := [.int 0, .int 0, .int 0]) (rest := []) B hP hS (d_X0_set l E ρ r S0 hS0 (k100_7 + 8) (lay1 hk100_7).2.2.2 0 0 0 hI) lk_RX6_168 (hrecv (ci := 0) B hP (hk_lt (c := 0) (lay1 hk100_7).2.2.2 (by decide)) (hcc0 _ _ (lay1 hk100_7).2.2.2) rfl) rfl rfl hl.1 (Nat.le_of_ble_eq_true rfl) ⟨Nat.le_of_ble_eq_true rfl, Nat.le_of_ble_eq_true rfl⟩ ⟨Nat.le_of_ble_eq_true rfl, Nat.le_of_ble_eq_true rfl⟩ dX6_reserve_114) hS (fun ρ104 H locs q105 hP hS => ?_)
      have hI := q105
      refine lv_goto (tgt := 133) hx hb dX6_reserve_117 (by decide) ?_
      exact b133_0 ls ρ104 _ _ 1 (lv_sub hl [1, 0] rfl) hP hS hI (by omega) (by omega) (iR_w fa1 (by decide) (by decide)) (iR_w fa3 (by decide) (by decide))
  have b42_0 : ∀ (ls : Array Slot) (ρ : Nat → Nat → Int32) (H : Heap) (locs : List Loc) , lv_has ls 9 [(0, .ref (E.2.1 + 0)), (1, .int a1), (2, .int a2), (3, .int a3), (4, .int a4), (5, .int a5)] → WP E ρ H → va_S (hA E) s.heap H locs → CI r S0 ρ → W p l e (rmk 7 280) s m ([.ref (E.2.1 + 0), .int a1, .int a2, .int a3, .int a4, .int a5] : List Value).toArray below meth c H locs 0 0 (MQ below (cI E (fun v ρ1 => CI r S0 ρ1)) ([.ref (E.2.1 + 0), .int a1, .int a2, .int a3, .int a4, .int a5] : List Value).toArray s 0 0 (hA E)) (F0 m 42 ls [.int 0]) := by
    intro ls ρ H locs  hl hP hS hI
    refine lv_istore (lv' := [(6, .int 0), (0, .ref (E.2.1 + 0)), (1, .int a1), (2, .int a2), (3, .int a3), (4, .int a4), (5, .int a5)]) hx hb dX6_reserve_42 hl (by decide) rfl (fun ls hl => ?_)
    refine lv_iload hx hb dX6_reserve_44 (lv_at hl 0 rfl) ?_
    refine lv_if_ne (tgt := 55) hx hb dX6_reserve_46 (by decide) (fun c107 => absurd rfl c107) (fun _ => ?_)
    refine lv_aload_n hx hb dX6_reserve_49 rfl (lv_at hl 1 rfl) ?_
    refine lv_iconst (v := (-1)) hx hb dX6_reserve_50 (by decide) ?_
    refine call_i (cVt (k := 0) (av := [.int (-1)]) (rest := []) B hP hS (d_X6_refuse l E ρ r (-1) hI) lk_RX6_58 (hrecv (ci := 6) B hP (hk_lt (c := 6) (show hk 0 = 6 by decide +kernel) (by decide)) (hcc6 _ _ (show hk 0 = 6 by decide +kernel)) rfl) rfl rfl hl.1 (Nat.le_of_ble_eq_true rfl) ⟨Nat.le_of_ble_eq_true rfl, Nat.le_of_ble_eq_true rfl⟩ ⟨Nat.le_of_ble_eq_true rfl, Nat.le_of_ble_eq_true rfl⟩ dX6_reserve_51) hS (fun r108 ρ109 H locs q110 hP hS => ?_)
    have hI := q110
    exact ret_i B hr hlk hP hS dX6_reserve_54 (hI)
  have b42_1 : ∀ (ls : Array Slot) (ρ : Nat → Nat → Int32) (H : Heap) (locs : List Loc) , lv_has ls 9 [(0, .ref (E.2.1 + 0)), (1, .int a1), (2, .int a2), (3, .int a3), (4, .int a4), (5, .int a5)] → WP E ρ H → va_S (hA E) s.heap H locs → CI r S0 ρ → iR a3 (0) (40) → W p l e (rmk 7 280) s m ([.ref (E.2.1 + 0), .int a1, .int a2, .int a3, .int a4, .int a5] : List Value).toArray below meth c H locs 0 0 (MQ below (cI E (fun v ρ1 => CI r S0 ρ1)) ([.ref (E.2.1 + 0), .int a1, .int a2, .int a3, .int a4, .int a5] : List Value).toArray s 0 0 (hA E)) (F0 m 42 ls [.int 1]) := by
    intro ls ρ H locs  hl hP hS hI fa3
    refine lv_istore (lv' := [(6, .int 1), (0, .ref (E.2.1 + 0)), (1, .int a1), (2, .int a2), (3, .int a3), (4, .int a4), (5, .int a5)]) hx hb dX6_reserve_42 hl (by decide) rfl (fun ls hl => ?_)
    refine lv_iload hx hb dX6_reserve_44 (lv_at hl 0 rfl) ?_
    refine lv_if_ne (tgt := 55) hx hb dX6_reserve_46 (by decide) (fun _ => ?_) (fun c112 => absurd c112 (iR_ne (show iR 1 (1) (1) from ⟨by decide, by decide⟩) (show iR 0 (0) (0) from ⟨by decide, by decide⟩) (by decide)))
    refine lv_aload_n hx hb dX6_reserve_55 rfl (lv_at hl 1 rfl) ?_
    refine get6 B hP (show hk 0 = 6 by decide +kernel) 0 (by decide) mw_412 rfl dX6_reserve_56 ?_
    refine lv_iload_n hx hb dX6_reserve_59 rfl (lv_at hl 2 rfl) ?_
    refine lv_iload_n hx hb dX6_reserve_60 rfl (lv_at hl 3 rfl) ?_
    refine call_q (cVt (k := 1) (av := [.int a1, .int a2]) (rest := []) B hP hS (d_X5_linkAt l E ρ r S0 hS0 1 (show hk 1 = 5 by decide +kernel) a1 a2 hI) lk_RX6_132 (hrecv (ci := 5) B hP (hk_lt (c := 5) (show hk 1 = 5 by decide +kernel) (by decide)) (hcc5 _ _ (show hk 1 = 5 by decide +kernel)) rfl) rfl rfl hl.1 (Nat.le_of_ble_eq_true rfl) ⟨Nat.le_of_ble_eq_true rfl, Nat.le_of_ble_eq_true rfl⟩ ⟨Nat.le_of_ble_eq_true rfl, Nat.le_of_ble_eq_true rfl⟩ dX6_reserve_61) hS (fun r113 ρ114 H locs q115 hP hS => ?_)
    obtain ⟨rfl, hI, q115⟩ := q115
    rcases q115 with rfl | ⟨j116, k117, rfl, hk117, ej116, uj116⟩
    · skip
      refine W.eq (g2 := F0 m 64 ls [.null]) rfl ?_
      refine lv_astoreN (lv' := [(7, .null), (6, .int 1), (0, .ref (E.2.1 + 0)), (1, .int a1), (2, .int a2), (3, .int a3), (4, .int a4), (5, .int a5)]) hx hb dX6_reserve_64 hl (by decide) rfl (fun ls hl => ?_)
      refine lv_aloadN hx hb dX6_reserve_66 (lv_at hl 0 rfl) ?_
      refine lv_ifnonnullN hx hb dX6_reserve_68 ?_
      refine lv_aload_n hx hb dX6_reserve_71 rfl (lv_at hl 2 rfl) ?_
      refine lv_bipush (v := (-2)) hx hb dX6_reserve_72 (by decide) ?_
      refine call_i (cVt (k := 0) (av := [.int (-2)]) (rest := []) B hP hS (d_X6_refuse l E ρ r (-2) hI) lk_RX6_58 (hrecv (ci := 6) B hP (hk_lt (c := 6) (show hk 0 = 6 by decide +kernel) (by decide)) (hcc6 _ _ (show hk 0 = 6 by decide +kernel)) rfl) rfl rfl hl.1 (Nat.le_of_ble_eq_true rfl) ⟨Nat.le_of_ble_eq_true rfl, Nat.le_of_ble_eq_true rfl⟩ ⟨Nat.le_of_ble_eq_true rfl, Nat.le_of_ble_eq_true rfl⟩ dX6_reserve_74) hS (fun r118 ρ119 H locs q120 hP hS => ?_)
      have hI := q120
      exact ret_i B hr hlk hP hS dX6_reserve_77 (hI)
    · skip
      refine W.eq (g2 := F0 m 64 ls [.ref (E.2.1 + k117)]) rfl ?_
      refine lv_astore (lv' := [(7, .ref (E.2.1 + k117)), (6, .int 1), (0, .ref (E.2.1 + 0)), (1, .int a1), (2, .int a2), (3, .int a3), (4, .int a4), (5, .int a5)]) hx hb dX6_reserve_64 hl (by decide) rfl (fun ls hl => ?_)
      refine lv_aload hx hb dX6_reserve_66 (lv_at hl 0 rfl) ?_
      refine lv_ifnonnull (tgt := 78) hx hb dX6_reserve_68 (by decide) ?_
      refine lv_aload_n hx hb dX6_reserve_78 rfl (lv_at hl 2 rfl) ?_
      refine lv_bipush (v := 7) hx hb dX6_reserve_79 (by decide) ?_
      refine call_v (cVt (k := 0) (av := [.int 7]) (rest := []) B hP hS (d_X6_keepForUndo l E ρ r S0 hS0 7 hI (fun _ q => q.elim)) lk_RX6_65 (hrecv (ci := 6) B hP (hk_lt (c := 6) (show hk 0 = 6 by decide +kernel) (by decide)) (hcc6 _ _ (show hk 0 = 6 by decide +kernel)) rfl) rfl rfl hl.1 (Nat.le_of_ble_eq_true rfl) ⟨Nat.le_of_ble_eq_true rfl, Nat.le_of_ble_eq_true rfl⟩ ⟨Nat.le_of_ble_eq_true rfl, Nat.le_of_ble_eq_true rfl⟩ dX6_reserve_81) hS (fun ρ123 H locs q124 hP hS => ?_)
      have hI := q124
      refine lv_aload hx hb dX6_reserve_84 (lv_at hl 0 rfl) ?_
      refine get1 B hP hk117 3 (by decide) mw_204 rfl dX6_reserve_86 ?_
      refine get0 B hP (lay1 hk117).2.2.2 0 (by decide) mw_167 rfl dX6_reserve_89 ?_
      refine lv_if_ne (tgt := 99) hx hb dX6_reserve_92 (by decide) (fun c126 => ?_) (fun c126 => ?_)
      · skip
        refine lv_iconst (v := 1) hx hb dX6_reserve_99 (by decide) ?_
        exact b100_1 ls ρ123 _ _ k117 (lv_sub hl [2, 5, 6, 7, 0] rfl) hP hS hI hk117 (iR_w (show iR a1 0 1 from by rw [ej116]; exact nI_iR (by omega) (by omega) (by omega)) (by decide) (by decide)) (iR_w fa3 (by decide) (by decide))
      · skip
        have i127 : iR (ρ123 (k117 + 8) 0) (0) (0) := (by rw [c126]; exact ⟨by decide, by decide⟩)
        refine lv_iconst (v := 0) hx hb dX6_reserve_95 (by decide) ?_
        refine lv_goto (tgt := 100) hx hb dX6_reserve_96 (by decide) ?_
        exact b100_0 ls ρ123 _ _ k117 (lv_sub hl [2, 5, 6, 7, 0] rfl) hP hS hI hk117 (iR_w (show iR a1 0 1 from by rw [ej116]; exact nI_iR (by omega) (by omega) (by omega)) (by decide) (by decide)) (iR_w fa3 (by decide) (by decide))
  have b41_0 : ∀ (ls : Array Slot) (ρ : Nat → Nat → Int32) (H : Heap) (locs : List Loc) , lv_has ls 9 [(0, .ref (E.2.1 + 0)), (1, .int a1), (2, .int a2), (3, .int a3), (4, .int a4), (5, .int a5)] → WP E ρ H → va_S (hA E) s.heap H locs → CI r S0 ρ → W p l e (rmk 7 280) s m ([.ref (E.2.1 + 0), .int a1, .int a2, .int a3, .int a4, .int a5] : List Value).toArray below meth c H locs 0 0 (MQ below (cI E (fun v ρ1 => CI r S0 ρ1)) ([.ref (E.2.1 + 0), .int a1, .int a2, .int a3, .int a4, .int a5] : List Value).toArray s 0 0 (hA E)) (F0 m 41 ls []) := by
    intro ls ρ H locs  hl hP hS hI
    refine lv_iconst (v := 0) hx hb dX6_reserve_41 (by decide) ?_
    exact b42_0 ls ρ _ _  (lv_sub hl [0, 1, 2, 3, 4, 5] rfl) hP hS hI 
  have b37_0 : ∀ (ls : Array Slot) (ρ : Nat → Nat → Int32) (H : Heap) (locs : List Loc) , lv_has ls 9 [(0, .ref (E.2.1 + 0)), (1, .int a1), (2, .int a2), (3, .int a3), (4, .int a4), (5, .int a5)] → WP E ρ H → va_S (hA E) s.heap H locs → CI r S0 ρ → iR a3 (0) (40) → W p l e (rmk 7 280) s m ([.ref (E.2.1 + 0), .int a1, .int a2, .int a3, .int a4, .int a5] : List Value).toArray below meth c H locs 0 0 (MQ below (cI E (fun v ρ1 => CI r S0 ρ1)) ([.ref (E.2.1 + 0), .int a1, .int a2, .int a3, .int a4, .int a5] : List Value).toArray s 0 0 (hA E)) (F0 m 37 ls []) := by
    intro ls ρ H locs  hl hP hS hI fa3
    refine lv_iconst (v := 1) hx hb dX6_reserve_37 (by decide) ?_
    refine lv_goto (tgt := 42) hx hb dX6_reserve_38 (by decide) ?_
    exact b42_1 ls ρ _ _  (lv_sub hl [0, 1, 2, 3, 4, 5] rfl) hP hS hI (iR_w fa3 (by decide) (by decide))
  refine lv_iload_n hx hb dX6_reserve_0 rfl (lv_at hl 3 rfl) ?_
  refine lv_if_eq (tgt := 37) hx hb dX6_reserve_1 (by decide) (fun c128 => ?_) (fun c128 => ?_)
  · skip
    have i129 : iR a3 (0) (0) := (by rw [c128]; exact ⟨by decide, by decide⟩)
    exact b37_0 ls ρ _ _  (lv_sub hl [0, 1, 2, 3, 4, 5] rfl) hP hS hI (iR_w i129 (by decide) (by decide))
  · skip
    refine lv_iload_n hx hb dX6_reserve_4 rfl (lv_at hl 3 rfl) ?_
    refine lv_bipush (v := 6) hx hb dX6_reserve_5 (by decide) ?_
    refine lv_bipush (v := 40) hx hb dX6_reserve_7 (by decide) ?_
    refine call_i (cS (av := [.int a3, .int 6, .int 40]) (rest := []) B hP hS (c_isEvenWithin l E ρ a3 6 40 6 40 (by decide) (by decide)) lk_RX6_156 rfl rfl hl.1 (Nat.le_of_ble_eq_true rfl) ⟨Nat.le_of_ble_eq_true rfl, Nat.le_of_ble_eq_true rfl⟩ ⟨Nat.le_of_ble_eq_true rfl, Nat.le_of_ble_eq_true rfl⟩ dX6_reserve_9) hS (fun r130 ρ131 H locs q132 hP hS => ?_)
    obtain ⟨rfl, q132⟩ := q132
    rcases q132 with ⟨rfl, q132⟩ | ⟨rfl, q132⟩
    · skip
      refine lv_if_eq (tgt := 41) hx hb dX6_reserve_12 (by decide) (fun c133 => absurd c133 (iR_ne (show iR 1 (1) (1) from ⟨by decide, by decide⟩) (show iR 0 (0) (0) from ⟨by decide, by decide⟩) (by decide))) (fun _ => ?_)
      refine lv_iload hx hb dX6_reserve_15 (lv_at hl 4 rfl) ?_
      refine lv_iconst (v := 0) hx hb dX6_reserve_17 (by decide) ?_
      refine lv_iload_n hx hb dX6_reserve_18 rfl (lv_at hl 3 rfl) ?_
      obtain ⟨j134, lj134, uj134, ej134⟩ := iR_nat (a := 6) (b := 40) q132.1
      refine lv_topi (fun z135 ez135 => ?_)
      obtain rfl : z135 = nI j134 := ez135.trans ej134
      refine lv_iconst (v := 1) hx hb dX6_reserve_19 (by decide) ?_
      refine lv_isub hx hb dX6_reserve_20 ?_
      obtain ⟨j136, lj136, uj136, ej136⟩ := iR_nat (a := 5) (b := 39) (iR_sub (a' := 5) (b' := 39) (nI_iR (j := j134) (a := 6) (b := 40) (by omega) (by omega) (by omega)) (show iR 1 (1) (1) from ⟨by decide, by decide⟩) (by decide) (by decide) (by decide) (by decide))
      refine lv_topi (fun z137 ez137 => ?_)
      obtain rfl : z137 = nI j136 := ez137.trans ej136
      refine call_i (cS (av := [.int a4, .int 0, .int (nI j136)]) (rest := []) B hP hS (c_isEvenWithin l E ρ a4 0 (nI j136) 0 (nI j136).toInt (by decide) rfl) lk_RX6_156 rfl rfl hl.1 (Nat.le_of_ble_eq_true rfl) ⟨Nat.le_of_ble_eq_true rfl, Nat.le_of_ble_eq_true rfl⟩ ⟨Nat.le_of_ble_eq_true rfl, Nat.le_of_ble_eq_true rfl⟩ dX6_reserve_21) hS (fun r138 ρ139 H locs q140 hP hS => ?_)
      obtain ⟨rfl, q140⟩ := q140
      rcases q140 with ⟨rfl, q140⟩ | ⟨rfl, q140⟩
      · skip
        refine lv_if_eq (tgt := 41) hx hb dX6_reserve_24 (by decide) (fun c141 => absurd c141 (iR_ne (show iR 1 (1) (1) from ⟨by decide, by decide⟩) (show iR 0 (0) (0) from ⟨by decide, by decide⟩) (by decide))) (fun _ => ?_)
        refine lv_iload hx hb dX6_reserve_27 (lv_at hl 5 rfl) ?_
        refine lv_iconst (v := 1) hx hb dX6_reserve_29 (by decide) ?_
        refine lv_iconst (v := 3) hx hb dX6_reserve_30 (by decide) ?_
        refine call_i (cS (av := [.int a5, .int 1, .int 3]) (rest := []) B hP hS (c_isWithin l E ρ a5 1 3 1 3 (by decide) (by decide)) lk_RX6_54 rfl rfl hl.1 (Nat.le_of_ble_eq_true rfl) ⟨Nat.le_of_ble_eq_true rfl, Nat.le_of_ble_eq_true rfl⟩ ⟨Nat.le_of_ble_eq_true rfl, Nat.le_of_ble_eq_true rfl⟩ dX6_reserve_31) hS (fun r142 ρ143 H locs q144 hP hS => ?_)
        obtain ⟨rfl, q144⟩ := q144
        rcases q144 with ⟨rfl, q144⟩ | ⟨rfl, q144⟩
        · skip
          refine lv_if_eq (tgt := 41) hx hb dX6_reserve_34 (by decide) (fun c145 => absurd c145 (iR_ne (show iR 1 (1) (1) from ⟨by decide, by decide⟩) (show iR 0 (0) (0) from ⟨by decide, by decide⟩) (by decide))) (fun _ => ?_)
          exact b37_0 ls ρ _ _  (lv_sub hl [0, 1, 2, 3, 4, 5] rfl) hP hS hI (iR_w q132.1 (by decide) (by decide))
        · skip
          refine lv_if_eq (tgt := 41) hx hb dX6_reserve_34 (by decide) (fun _ => ?_) (fun c146 => absurd rfl c146)
          exact b41_0 ls ρ _ _  (lv_sub hl [0, 1, 2, 3, 4, 5] rfl) hP hS hI 
      · skip
        refine lv_if_eq (tgt := 41) hx hb dX6_reserve_24 (by decide) (fun _ => ?_) (fun c147 => absurd rfl c147)
        exact b41_0 ls ρ _ _  (lv_sub hl [0, 1, 2, 3, 4, 5] rfl) hP hS hI 
    · skip
      refine lv_if_eq (tgt := 41) hx hb dX6_reserve_12 (by decide) (fun _ => ?_) (fun c148 => absurd rfl c148)
      exact b41_0 ls ρ _ _  (lv_sub hl [0, 1, 2, 3, 4, 5] rfl) hP hS hI 

set_option maxHeartbeats 4000000 in
set_option maxRecDepth 100000 in
theorem d_X6_sniff (l : Launch) (E : hE) (ρ r : Nat → Nat → Int32) (a1 : Int32) (a2 : Int32) (a3 : Int32) (a4 : Int32) (hI : CI r S0 ρ) : Met l yX6_sniff (.code yX6_sniff cX6_sniff 8 (some .int) :: gw_all) (rmk 7 280) (cPre E ρ [.ref (E.2.1 + 0), .int a1, .int a2, .int a3, .int a4]) (cI E (fun v ρ1 => CI r S0 ρ1)) 0 0 (hA E) := by
  refine ent (own := RX6) (by decide) rfl (Nat.le_of_ble_eq_true rfl) ?_
  intro p e s m below meth c ls B hr hlk hl hP hS
  have hx := B.1.1
  have hb := B.1.2.1
  have hown := B.1.2.2.2.1
  have hts := B.1.2.2.2.2
  have hl : lv_has ls 8 [(0, .ref (E.2.1 + 0)), (1, .int a1), (2, .int a2), (3, .int a3), (4, .int a4)] := hl
  have b97_0 : ∀ (ls : Array Slot) (ρ : Nat → Nat → Int32) (H : Heap) (locs : List Loc) (x97_7 : Int32) (k97_s0 : Nat), lv_has ls 8 [(0, .ref (E.2.1 + 0)), (7, .int x97_7)] → WP E ρ H → va_S (hA E) s.heap H locs → CI r S0 ρ → iR x97_7 (-2147483648) (2147483647) → hk k97_s0 = 1 → iR a1 (0) (1) → iR a3 (0) (64) → W p l e (rmk 7 280) s m ([.ref (E.2.1 + 0), .int a1, .int a2, .int a3, .int a4] : List Value).toArray below meth c H locs 0 0 (MQ below (cI E (fun v ρ1 => CI r S0 ρ1)) ([.ref (E.2.1 + 0), .int a1, .int a2, .int a3, .int a4] : List Value).toArray s 0 0 (hA E)) (F0 m 97 ls [.int a4, .ref (E.2.1 + k97_s0)]) := by
    intro ls ρ H locs x97_7 k97_s0 hl hP hS hI hx97_7 hk97_s0 fa1 fa3
    refine put1 B hP hS hk97_s0 8 (by decide) mw_220 rfl rfl rfl (fs1_8 E k97_s0 _ _) dX6_sniff_97 (fun H locs hP hS => ?_)
    obtain ⟨ρ52, e53⟩ : ∃ z, z = up ρ k97_s0 8 a4 := ⟨_, rfl⟩
    rw [← e53] at hP
    have hI : CI r S0 ρ52 := by rw [e53]; exact CI_up hI (kind_lt hk97_s0 (by decide)) (SP_plain hk97_s0 rfl (by decide)) ⟨(fun z2 => absurd (Eq.trans (Eq.symm hk97_s0) z2) (by decide)), (fun z2 => absurd (Eq.trans (Eq.symm hk97_s0) z2) (by decide))⟩ hS0
    refine lv_aload_n hx hb dX6_sniff_100 rfl (lv_at hl 0 rfl) ?_
    refine lv_iload hx hb dX6_sniff_101 (lv_at hl 1 rfl) ?_
    refine call_i (cVt (k := 0) (av := [.int x97_7]) (rest := []) B hP hS (d_X6_accept l E ρ52 r x97_7 hI) lk_RX6_72 (hrecv (ci := 6) B hP (hk_lt (c := 6) (show hk 0 = 6 by decide +kernel) (by decide)) (hcc6 _ _ (show hk 0 = 6 by decide +kernel)) rfl) rfl rfl hl.1 (Nat.le_of_ble_eq_true rfl) ⟨Nat.le_of_ble_eq_true rfl, Nat.le_of_ble_eq_true rfl⟩ ⟨Nat.le_of_ble_eq_true rfl, Nat.le_of_ble_eq_true rfl⟩ dX6_sniff_103) hS (fun r54 ρ55 H locs q56 hP hS => ?_)
    have hI := q56
    exact ret_i B hr hlk hP hS dX6_sniff_106 (hI)
  have b97_1 : ∀ (ls : Array Slot) (ρ : Nat → Nat → Int32) (H : Heap) (locs : List Loc) (x97_7 : Int32) (k97_s0 : Nat), lv_has ls 8 [(0, .ref (E.2.1 + 0)), (7, .int x97_7)] → WP E ρ H → va_S (hA E) s.heap H locs → CI r S0 ρ → iR x97_7 (-2147483648) (2147483647) → hk k97_s0 = 1 → iR a1 (0) (1) → iR a3 (0) (64) → W p l e (rmk 7 280) s m ([.ref (E.2.1 + 0), .int a1, .int a2, .int a3, .int a4] : List Value).toArray below meth c H locs 0 0 (MQ below (cI E (fun v ρ1 => CI r S0 ρ1)) ([.ref (E.2.1 + 0), .int a1, .int a2, .int a3, .int a4] : List Value).toArray s 0 0 (hA E)) (F0 m 97 ls [.int 0, .ref (E.2.1 + k97_s0)]) := by
    intro ls ρ H locs x97_7 k97_s0 hl hP hS hI hx97_7 hk97_s0 fa1 fa3
    refine put1 B hP hS hk97_s0 8 (by decide) mw_220 rfl rfl rfl (fs1_8 E k97_s0 _ _) dX6_sniff_97 (fun H locs hP hS => ?_)
    obtain ⟨ρ58, e59⟩ : ∃ z, z = up ρ k97_s0 8 0 := ⟨_, rfl⟩
    rw [← e59] at hP
    have hI : CI r S0 ρ58 := by rw [e59]; exact CI_up hI (kind_lt hk97_s0 (by decide)) (SP_plain hk97_s0 rfl (by decide)) ⟨(fun z2 => absurd (Eq.trans (Eq.symm hk97_s0) z2) (by decide)), (fun z2 => absurd (Eq.trans (Eq.symm hk97_s0) z2) (by decide))⟩ hS0
    refine lv_aload_n hx hb dX6_sniff_100 rfl (lv_at hl 0 rfl) ?_
    refine lv_iload hx hb dX6_sniff_101 (lv_at hl 1 rfl) ?_
    refine call_i (cVt (k := 0) (av := [.int x97_7]) (rest := []) B hP hS (d_X6_accept l E ρ58 r x97_7 hI) lk_RX6_72 (hrecv (ci := 6) B hP (hk_lt (c := 6) (show hk 0 = 6 by decide +kernel) (by decide)) (hcc6 _ _ (show hk 0 = 6 by decide +kernel)) rfl) rfl rfl hl.1 (Nat.le_of_ble_eq_true rfl) ⟨Nat.le_of_ble_eq_true rfl, Nat.le_of_ble_eq_true rfl⟩ ⟨Nat.le_of_ble_eq_true rfl, Nat.le_of_ble_eq_true rfl⟩ dX6_sniff_103) hS (fun r60 ρ61 H locs q62 hP hS => ?_)
    have hI := q62
    exact ret_i B hr hlk hP hS dX6_sniff_106 (hI)
  have b30_0 : ∀ (ls : Array Slot) (ρ : Nat → Nat → Int32) (H : Heap) (locs : List Loc) , lv_has ls 8 [(0, .ref (E.2.1 + 0)), (1, .int a1), (2, .int a2), (3, .int a3), (4, .int a4)] → WP E ρ H → va_S (hA E) s.heap H locs → CI r S0 ρ → W p l e (rmk 7 280) s m ([.ref (E.2.1 + 0), .int a1, .int a2, .int a3, .int a4] : List Value).toArray below meth c H locs 0 0 (MQ below (cI E (fun v ρ1 => CI r S0 ρ1)) ([.ref (E.2.1 + 0), .int a1, .int a2, .int a3, .int a4] : List Value).toArray s 0 0 (hA E)) (F0 m 30 ls [.int 0]) := by
    intro ls ρ H locs  hl hP hS hI
    refine lv_istore (lv' := [(5, .int 0), (0, .ref (E.2.1 + 0)), (1, .int a1), (2, .int a2), (3, .int a3), (4, .int a4)]) hx hb dX6_sniff_30 hl (by decide) rfl (fun ls hl => ?_)
    refine lv_iload hx hb dX6_sniff_32 (lv_at hl 0 rfl) ?_
    refine lv_if_ne (tgt := 43) hx hb dX6_sniff_34 (by decide) (fun c64 => absurd rfl c64) (fun _ => ?_)
    refine lv_aload_n hx hb dX6_sniff_37 rfl (lv_at hl 1 rfl) ?_
    refine lv_iconst (v := (-1)) hx hb dX6_sniff_38 (by decide) ?_
    refine call_i (cVt (k := 0) (av := [.int (-1)]) (rest := []) B hP hS (d_X6_refuse l E ρ r (-1) hI) lk_RX6_58 (hrecv (ci := 6) B hP (hk_lt (c := 6) (show hk 0 = 6 by decide +kernel) (by decide)) (hcc6 _ _ (show hk 0 = 6 by decide +kernel)) rfl) rfl rfl hl.1 (Nat.le_of_ble_eq_true rfl) ⟨Nat.le_of_ble_eq_true rfl, Nat.le_of_ble_eq_true rfl⟩ ⟨Nat.le_of_ble_eq_true rfl, Nat.le_of_ble_eq_true rfl⟩ dX6_sniff_39) hS (fun r65 ρ66 H locs q67 hP hS => ?_)
    have hI := q67
    exact ret_i B hr hlk hP hS dX6_sniff_42 (hI)
  have b30_1 : ∀ (ls : Array Slot) (ρ : Nat → Nat → Int32) (H : Heap) (locs : List Loc) , lv_has ls 8 [(0, .ref (E.2.1 + 0)), (1, .int a1), (2, .int a2), (3, .int a3), (4, .int a4)] → WP E ρ H → va_S (hA E) s.heap H locs → CI r S0 ρ → iR a3 (0) (64) → W p l e (rmk 7 280) s m ([.ref (E.2.1 + 0), .int a1, .int a2, .int a3, .int a4] : List Value).toArray below meth c H locs 0 0 (MQ below (cI E (fun v ρ1 => CI r S0 ρ1)) ([.ref (E.2.1 + 0), .int a1, .int a2, .int a3, .int a4] : List Value).toArray s 0 0 (hA E)) (F0 m 30 ls [.int 1]) := by
    intro ls ρ H locs  hl hP hS hI fa3
    refine lv_istore (lv' := [(5, .int 1), (0, .ref (E.2.1 + 0)), (1, .int a1), (2, .int a2), (3, .int a3), (4, .int a4)]) hx hb dX6_sniff_30 hl (by decide) rfl (fun ls hl => ?_)
    refine lv_iload hx hb dX6_sniff_32 (lv_at hl 0 rfl) ?_
    refine lv_if_ne (tgt := 43) hx hb dX6_sniff_34 (by decide) (fun _ => ?_) (fun c69 => absurd c69 (iR_ne (show iR 1 (1) (1) from ⟨by decide, by decide⟩) (show iR 0 (0) (0) from ⟨by decide, by decide⟩) (by decide)))
    refine lv_aload_n hx hb dX6_sniff_43 rfl (lv_at hl 1 rfl) ?_
    refine get6 B hP (show hk 0 = 6 by decide +kernel) 0 (by decide) mw_412 rfl dX6_sniff_44 ?_
    refine lv_iload_n hx hb dX6_sniff_47 rfl (lv_at hl 2 rfl) ?_
    refine lv_iload_n hx hb dX6_sniff_48 rfl (lv_at hl 3 rfl) ?_
    refine call_q (cVt (k := 1) (av := [.int a1, .int a2]) (rest := []) B hP hS (d_X5_linkAt l E ρ r S0 hS0 1 (show hk 1 = 5 by decide +kernel) a1 a2 hI) lk_RX6_132 (hrecv (ci := 5) B hP (hk_lt (c := 5) (show hk 1 = 5 by decide +kernel) (by decide)) (hcc5 _ _ (show hk 1 = 5 by decide +kernel)) rfl) rfl rfl hl.1 (Nat.le_of_ble_eq_true rfl) ⟨Nat.le_of_ble_eq_true rfl, Nat.le_of_ble_eq_true rfl⟩ ⟨Nat.le_of_ble_eq_true rfl, Nat.le_of_ble_eq_true rfl⟩ dX6_sniff_49) hS (fun r70 ρ71 H locs q72 hP hS => ?_)
    obtain ⟨rfl, hI, q72⟩ := q72
    rcases q72 with rfl | ⟨j73, k74, rfl, hk74, ej73, uj73⟩
    · skip
      refine W.eq (g2 := F0 m 52 ls [.null]) rfl ?_
      refine lv_astoreN (lv' := [(6, .null), (5, .int 1), (0, .ref (E.2.1 + 0)), (1, .int a1), (2, .int a2), (3, .int a3), (4, .int a4)]) hx hb dX6_sniff_52 hl (by decide) rfl (fun ls hl => ?_)
      refine lv_aloadN hx hb dX6_sniff_54 (lv_at hl 0 rfl) ?_
      refine lv_ifnonnullN hx hb dX6_sniff_56 ?_
      refine lv_aload_n hx hb dX6_sniff_59 rfl (lv_at hl 2 rfl) ?_
      refine lv_bipush (v := (-2)) hx hb dX6_sniff_60 (by decide) ?_
      refine call_i (cVt (k := 0) (av := [.int (-2)]) (rest := []) B hP hS (d_X6_refuse l E ρ r (-2) hI) lk_RX6_58 (hrecv (ci := 6) B hP (hk_lt (c := 6) (show hk 0 = 6 by decide +kernel) (by decide)) (hcc6 _ _ (show hk 0 = 6 by decide +kernel)) rfl) rfl rfl hl.1 (Nat.le_of_ble_eq_true rfl) ⟨Nat.le_of_ble_eq_true rfl, Nat.le_of_ble_eq_true rfl⟩ ⟨Nat.le_of_ble_eq_true rfl, Nat.le_of_ble_eq_true rfl⟩ dX6_sniff_62) hS (fun r75 ρ76 H locs q77 hP hS => ?_)
      have hI := q77
      exact ret_i B hr hlk hP hS dX6_sniff_65 (hI)
    · skip
      refine W.eq (g2 := F0 m 52 ls [.ref (E.2.1 + k74)]) rfl ?_
      refine lv_astore (lv' := [(6, .ref (E.2.1 + k74)), (5, .int 1), (0, .ref (E.2.1 + 0)), (1, .int a1), (2, .int a2), (3, .int a3), (4, .int a4)]) hx hb dX6_sniff_52 hl (by decide) rfl (fun ls hl => ?_)
      refine lv_aload hx hb dX6_sniff_54 (lv_at hl 0 rfl) ?_
      refine lv_ifnonnull (tgt := 66) hx hb dX6_sniff_56 (by decide) ?_
      refine lv_aload_n hx hb dX6_sniff_66 rfl (lv_at hl 2 rfl) ?_
      refine lv_bipush (v := 10) hx hb dX6_sniff_67 (by decide) ?_
      refine call_v (cVt (k := 0) (av := [.int 10]) (rest := []) B hP hS (d_X6_keepForUndo l E ρ r S0 hS0 10 hI (fun _ q => q.elim)) lk_RX6_65 (hrecv (ci := 6) B hP (hk_lt (c := 6) (show hk 0 = 6 by decide +kernel) (by decide)) (hcc6 _ _ (show hk 0 = 6 by decide +kernel)) rfl) rfl rfl hl.1 (Nat.le_of_ble_eq_true rfl) ⟨Nat.le_of_ble_eq_true rfl, Nat.le_of_ble_eq_true rfl⟩ ⟨Nat.le_of_ble_eq_true rfl, Nat.le_of_ble_eq_true rfl⟩ dX6_sniff_69) hS (fun ρ80 H locs q81 hP hS => ?_)
      have hI := q81
      refine lv_aload hx hb dX6_sniff_72 (lv_at hl 0 rfl) ?_
      refine get1 B hP hk74 7 (by decide) mw_218 rfl dX6_sniff_74 ?_
      refine lv_istore (lv' := [(7, .int (ρ80 k74 7)), (6, .ref (E.2.1 + k74)), (5, .int 1), (0, .ref (E.2.1 + 0)), (1, .int a1), (2, .int a2), (3, .int a3), (4, .int a4)]) hx hb dX6_sniff_77 hl (by decide) rfl (fun ls hl => ?_)
      refine lv_aload hx hb dX6_sniff_79 (lv_at hl 1 rfl) ?_
      refine lv_iload_n hx hb dX6_sniff_81 rfl (lv_at hl 6 rfl) ?_
      obtain ⟨j83, lj83, uj83, ej83⟩ := iR_nat (a := 0) (b := 64) fa3
      refine lv_topi (fun z84 ez84 => ?_)
      obtain rfl : z84 = nI j83 := ez84.trans ej83
      refine put1 B hP hS hk74 7 (by decide) mw_218 rfl rfl rfl (fs1_7 E k74 _ _) dX6_sniff_82 (fun H locs hP hS => ?_)
      obtain ⟨ρ85, e86⟩ : ∃ z, z = up ρ80 k74 7 (nI j83) := ⟨_, rfl⟩
      rw [← e86] at hP
      have hI : CI r S0 ρ85 := by rw [e86]; exact CI_up hI (kind_lt hk74 (by decide)) (SP_plain hk74 rfl (by decide)) ⟨(fun z2 => absurd (Eq.trans (Eq.symm hk74) z2) (by decide)), (fun z2 => absurd (Eq.trans (Eq.symm hk74) z2) (by decide))⟩ hS0
      refine lv_aload hx hb dX6_sniff_85 (lv_at hl 1 rfl) ?_
      refine lv_iload_n hx hb dX6_sniff_87 rfl (lv_at hl 6 rfl) ?_
      refine lv_topi (fun z87 ez87 => ?_)
      obtain rfl : z87 = nI j83 := ez87.trans ej83
      refine lv_if_ne (tgt := 95) hx hb dX6_sniff_88 (by decide) (fun c88 => ?_) (fun c88 => ?_)
      · skip
        have n89 := mt (nI_eq (a := j83) (b := 0) (by omega) (by omega)).mpr (show ¬ (nI j83 = nI 0) from c88)
        refine lv_iload hx hb dX6_sniff_95 (lv_at hl 7 rfl) ?_
        exact b97_0 ls ρ85 _ _ ((ρ80 k74 7) : Int32) k74 (lv_sub hl [3, 0] rfl) hP hS hI (iR_w (iR_any (ρ80 k74 7)) (by decide) (by decide)) hk74 (iR_w (show iR a1 0 1 from by rw [ej73]; exact nI_iR (by omega) (by omega) (by omega)) (by decide) (by decide)) (iR_w fa3 (by decide) (by decide))
      · skip
        have n90 := (nI_eq (a := j83) (b := 0) (by omega) (by omega)).mp (show (nI j83 = nI 0) from c88)
        refine lv_iconst (v := 0) hx hb dX6_sniff_91 (by decide) ?_
        refine lv_goto (tgt := 97) hx hb dX6_sniff_92 (by decide) ?_
        exact b97_1 ls ρ85 _ _ ((ρ80 k74 7) : Int32) k74 (lv_sub hl [3, 0] rfl) hP hS hI (iR_w (iR_any (ρ80 k74 7)) (by decide) (by decide)) hk74 (iR_w (show iR a1 0 1 from by rw [ej73]; exact nI_iR (by omega) (by omega) (by omega)) (by decide) (by decide)) (iR_w fa3 (by decide) (by decide))
  have b29_0 : ∀ (ls : Array Slot) (ρ : Nat → Nat → Int32) (H : Heap) (locs : List Loc) , lv_has ls 8 [(0, .ref (E.2.1 + 0)), (1, .int a1), (2, .int a2), (3, .int a3), (4, .int a4)] → WP E ρ H → va_S (hA E) s.heap H locs → CI r S0 ρ → W p l e (rmk 7 280) s m ([.ref (E.2.1 + 0), .int a1, .int a2, .int a3, .int a4] : List Value).toArray below meth c H locs 0 0 (MQ below (cI E (fun v ρ1 => CI r S0 ρ1)) ([.ref (E.2.1 + 0), .int a1, .int a2, .int a3, .int a4] : List Value).toArray s 0 0 (hA E)) (F0 m 29 ls []) := by
    intro ls ρ H locs  hl hP hS hI
    refine lv_iconst (v := 0) hx hb dX6_sniff_29 (by decide) ?_
    exact b30_0 ls ρ _ _  (lv_sub hl [0, 1, 2, 3, 4] rfl) hP hS hI 
  have b25_0 : ∀ (ls : Array Slot) (ρ : Nat → Nat → Int32) (H : Heap) (locs : List Loc) , lv_has ls 8 [(0, .ref (E.2.1 + 0)), (1, .int a1), (2, .int a2), (3, .int a3), (4, .int a4)] → WP E ρ H → va_S (hA E) s.heap H locs → CI r S0 ρ → iR a3 (0) (64) → W p l e (rmk 7 280) s m ([.ref (E.2.1 + 0), .int a1, .int a2, .int a3, .int a4] : List Value).toArray below meth c H locs 0 0 (MQ below (cI E (fun v ρ1 => CI r S0 ρ1)) ([.ref (E.2.1 + 0), .int a1, .int a2, .int a3, .int a4] : List Value).toArray s 0 0 (hA E)) (F0 m 25 ls []) := by
    intro ls ρ H locs  hl hP hS hI fa3
    refine lv_iconst (v := 1) hx hb dX6_sniff_25 (by decide) ?_
    refine lv_goto (tgt := 30) hx hb dX6_sniff_26 (by decide) ?_
    exact b30_1 ls ρ _ _  (lv_sub hl [0, 1, 2, 3, 4] rfl) hP hS hI (iR_w fa3 (by decide) (by decide))
  refine lv_iload_n hx hb dX6_sniff_0 rfl (lv_at hl 3 rfl) ?_
  refine lv_if_eq (tgt := 25) hx hb dX6_sniff_1 (by decide) (fun c91 => ?_) (fun c91 => ?_)
  · skip
    have i92 : iR a3 (0) (0) := (by rw [c91]; exact ⟨by decide, by decide⟩)
    exact b25_0 ls ρ _ _  (lv_sub hl [0, 1, 2, 3, 4] rfl) hP hS hI (iR_w i92 (by decide) (by decide))
  · skip
    refine lv_iload_n hx hb dX6_sniff_4 rfl (lv_at hl 3 rfl) ?_
    refine lv_bipush (v := 8) hx hb dX6_sniff_5 (by decide) ?_
    refine lv_bipush (v := 64) hx hb dX6_sniff_7 (by decide) ?_
    refine call_i (cS (av := [.int a3, .int 8, .int 64]) (rest := []) B hP hS (c_isEvenWithin l E ρ a3 8 64 8 64 (by decide) (by decide)) lk_RX6_156 rfl rfl hl.1 (Nat.le_of_ble_eq_true rfl) ⟨Nat.le_of_ble_eq_true rfl, Nat.le_of_ble_eq_true rfl⟩ ⟨Nat.le_of_ble_eq_true rfl, Nat.le_of_ble_eq_true rfl⟩ dX6_sniff_9) hS (fun r93 ρ94 H locs q95 hP hS => ?_)
    obtain ⟨rfl, q95⟩ := q95
    rcases q95 with ⟨rfl, q95⟩ | ⟨rfl, q95⟩
    · skip
      refine lv_if_eq (tgt := 29) hx hb dX6_sniff_12 (by decide) (fun c96 => absurd c96 (iR_ne (show iR 1 (1) (1) from ⟨by decide, by decide⟩) (show iR 0 (0) (0) from ⟨by decide, by decide⟩) (by decide))) (fun _ => ?_)
      refine lv_iload hx hb dX6_sniff_15 (lv_at hl 4 rfl) ?_
      refine lv_iconst (v := 1) hx hb dX6_sniff_17 (by decide) ?_
      refine lv_iconst (v := 4) hx hb dX6_sniff_18 (by decide) ?_
      refine call_i (cS (av := [.int a4, .int 1, .int 4]) (rest := []) B hP hS (c_isWithin l E ρ a4 1 4 1 4 (by decide) (by decide)) lk_RX6_54 rfl rfl hl.1 (Nat.le_of_ble_eq_true rfl) ⟨Nat.le_of_ble_eq_true rfl, Nat.le_of_ble_eq_true rfl⟩ ⟨Nat.le_of_ble_eq_true rfl, Nat.le_of_ble_eq_true rfl⟩ dX6_sniff_19) hS (fun r97 ρ98 H locs q99 hP hS => ?_)
      obtain ⟨rfl, q99⟩ := q99
      rcases q99 with ⟨rfl, q99⟩ | ⟨rfl, q99⟩
      · skip
        refine lv_if_eq (tgt := 29) hx hb dX6_sniff_22 (by decide) (fun c100 => absurd c100 (iR_ne (show iR 1 (1) (1) from ⟨by decide, by decide⟩) (show iR 0 (0) (0) from ⟨by decide, by decide⟩) (by decide))) (fun _ => ?_)
        exact b25_0 ls ρ _ _  (lv_sub hl [0, 1, 2, 3, 4] rfl) hP hS hI (iR_w q95.1 (by decide) (by decide))
      · skip
        refine lv_if_eq (tgt := 29) hx hb dX6_sniff_22 (by decide) (fun _ => ?_) (fun c101 => absurd rfl c101)
        exact b29_0 ls ρ _ _  (lv_sub hl [0, 1, 2, 3, 4] rfl) hP hS hI 
    · skip
      refine lv_if_eq (tgt := 29) hx hb dX6_sniff_12 (by decide) (fun _ => ?_) (fun c102 => absurd rfl c102)
      exact b29_0 ls ρ _ _  (lv_sub hl [0, 1, 2, 3, 4] rfl) hP hS hI 

set_option maxHeartbeats 4000000 in
set_option maxRecDepth 100000 in
theorem d_X6_weigh (l : Launch) (E : hE) (ρ r : Nat → Nat → Int32) (a1 : Int32) (a2 : Int32) (a3 : Int32) (hI : CI r S0 ρ) : Met l yX6_weigh (.code yX6_weigh cX6_weigh 6 (some .int) :: gw_all) (rmk 7 280) (cPre E ρ [.ref (E.2.1 + 0), .int a1, .int a2, .int a3]) (cI E (fun v ρ1 => CI r S0 ρ1)) 0 0 (hA E) := by
  refine ent (own := RX6) (by decide) rfl (Nat.le_of_ble_eq_true rfl) ?_
  intro p e s m below meth c ls B hr hlk hl hP hS
  have hx := B.1.1
  have hb := B.1.2.1
  have hown := B.1.2.2.2.1
  have hts := B.1.2.2.2.2
  have hl : lv_has ls 6 [(0, .ref (E.2.1 + 0)), (1, .int a1), (2, .int a2), (3, .int a3)] := hl
  refine lv_iload_n hx hb dX6_weigh_0 rfl (lv_at hl 3 rfl) ?_
  refine lv_iconst (v := 1) hx hb dX6_weigh_1 (by decide) ?_
  refine lv_iconst (v := 4) hx hb dX6_weigh_2 (by decide) ?_
  refine call_i (cS (av := [.int a3, .int 1, .int 4]) (rest := []) B hP hS (c_isWithin l E ρ a3 1 4 1 4 (by decide) (by decide)) lk_RX6_54 rfl rfl hl.1 (Nat.le_of_ble_eq_true rfl) ⟨Nat.le_of_ble_eq_true rfl, Nat.le_of_ble_eq_true rfl⟩ ⟨Nat.le_of_ble_eq_true rfl, Nat.le_of_ble_eq_true rfl⟩ dX6_weigh_3) hS (fun r31 ρ32 H locs q33 hP hS => ?_)
  obtain ⟨rfl, q33⟩ := q33
  rcases q33 with ⟨rfl, q33⟩ | ⟨rfl, q33⟩
  · skip
    refine lv_if_ne (tgt := 15) hx hb dX6_weigh_6 (by decide) (fun _ => ?_) (fun c34 => absurd c34 (iR_ne (show iR 1 (1) (1) from ⟨by decide, by decide⟩) (show iR 0 (0) (0) from ⟨by decide, by decide⟩) (by decide)))
    refine lv_aload_n hx hb dX6_weigh_15 rfl (lv_at hl 0 rfl) ?_
    refine get6 B hP (show hk 0 = 6 by decide +kernel) 0 (by decide) mw_412 rfl dX6_weigh_16 ?_
    refine lv_iload_n hx hb dX6_weigh_19 rfl (lv_at hl 1 rfl) ?_
    refine lv_iload_n hx hb dX6_weigh_20 rfl (lv_at hl 2 rfl) ?_
    refine call_q (cVt (k := 1) (av := [.int a1, .int a2]) (rest := []) B hP hS (d_X5_linkAt l E ρ r S0 hS0 1 (show hk 1 = 5 by decide +kernel) a1 a2 hI) lk_RX6_132 (hrecv (ci := 5) B hP (hk_lt (c := 5) (show hk 1 = 5 by decide +kernel) (by decide)) (hcc5 _ _ (show hk 1 = 5 by decide +kernel)) rfl) rfl rfl hl.1 (Nat.le_of_ble_eq_true rfl) ⟨Nat.le_of_ble_eq_true rfl, Nat.le_of_ble_eq_true rfl⟩ ⟨Nat.le_of_ble_eq_true rfl, Nat.le_of_ble_eq_true rfl⟩ dX6_weigh_21) hS (fun r35 ρ36 H locs q37 hP hS => ?_)
    obtain ⟨rfl, hI, q37⟩ := q37
    rcases q37 with rfl | ⟨j38, k39, rfl, hk39, ej38, uj38⟩
    · skip
      refine W.eq (g2 := F0 m 24 ls [.null]) rfl ?_
      refine lv_astoreN (lv' := [(4, .null), (0, .ref (E.2.1 + 0)), (1, .int a1), (2, .int a2), (3, .int a3)]) hx hb dX6_weigh_24 hl (by decide) rfl (fun ls hl => ?_)
      refine lv_aloadN hx hb dX6_weigh_26 (lv_at hl 0 rfl) ?_
      refine lv_ifnonnullN hx hb dX6_weigh_28 ?_
      refine lv_aload_n hx hb dX6_weigh_31 rfl (lv_at hl 1 rfl) ?_
      refine lv_bipush (v := (-2)) hx hb dX6_weigh_32 (by decide) ?_
      refine call_i (cVt (k := 0) (av := [.int (-2)]) (rest := []) B hP hS (d_X6_refuse l E ρ r (-2) hI) lk_RX6_58 (hrecv (ci := 6) B hP (hk_lt (c := 6) (show hk 0 = 6 by decide +kernel) (by decide)) (hcc6 _ _ (show hk 0 = 6 by decide +kernel)) rfl) rfl rfl hl.1 (Nat.le_of_ble_eq_true rfl) ⟨Nat.le_of_ble_eq_true rfl, Nat.le_of_ble_eq_true rfl⟩ ⟨Nat.le_of_ble_eq_true rfl, Nat.le_of_ble_eq_true rfl⟩ dX6_weigh_34) hS (fun r40 ρ41 H locs q42 hP hS => ?_)
      have hI := q42
      exact ret_i B hr hlk hP hS dX6_weigh_37 (hI)
    · skip
      refine W.eq (g2 := F0 m 24 ls [.ref (E.2.1 + k39)]) rfl ?_
      refine lv_astore (lv' := [(4, .ref (E.2.1 + k39)), (0, .ref (E.2.1 + 0)), (1, .int a1), (2, .int a2), (3, .int a3)]) hx hb dX6_weigh_24 hl (by decide) rfl (fun ls hl => ?_)
      refine lv_aload hx hb dX6_weigh_26 (lv_at hl 0 rfl) ?_
      refine lv_ifnonnull (tgt := 38) hx hb dX6_weigh_28 (by decide) ?_
      refine lv_aload_n hx hb dX6_weigh_38 rfl (lv_at hl 1 rfl) ?_
      refine lv_bipush (v := 12) hx hb dX6_weigh_39 (by decide) ?_
      refine call_v (cVt (k := 0) (av := [.int 12]) (rest := []) B hP hS (d_X6_keepForUndo l E ρ r S0 hS0 12 hI (fun _ q => q.elim)) lk_RX6_65 (hrecv (ci := 6) B hP (hk_lt (c := 6) (show hk 0 = 6 by decide +kernel) (by decide)) (hcc6 _ _ (show hk 0 = 6 by decide +kernel)) rfl) rfl rfl hl.1 (Nat.le_of_ble_eq_true rfl) ⟨Nat.le_of_ble_eq_true rfl, Nat.le_of_ble_eq_true rfl⟩ ⟨Nat.le_of_ble_eq_true rfl, Nat.le_of_ble_eq_true rfl⟩ dX6_weigh_41) hS (fun ρ45 H locs q46 hP hS => ?_)
      have hI := q46
      refine lv_aload hx hb dX6_weigh_44 (lv_at hl 0 rfl) ?_
      refine get1 B hP hk39 9 (by decide) mw_222 rfl dX6_weigh_46 ?_
      refine lv_istore (lv' := [(5, .int (ρ45 k39 9)), (4, .ref (E.2.1 + k39)), (0, .ref (E.2.1 + 0)), (1, .int a1), (2, .int a2), (3, .int a3)]) hx hb dX6_weigh_49 hl (by decide) rfl (fun ls hl => ?_)
      refine lv_aload hx hb dX6_weigh_51 (lv_at hl 1 rfl) ?_
      refine lv_iload_n hx hb dX6_weigh_53 rfl (lv_at hl 5 rfl) ?_
      obtain ⟨j48, lj48, uj48, ej48⟩ := iR_nat (a := 1) (b := 4) q33
      refine lv_topi (fun z49 ez49 => ?_)
      obtain rfl : z49 = nI j48 := ez49.trans ej48
      refine put1 B hP hS hk39 9 (by decide) mw_222 rfl rfl rfl (fs1_9 E k39 _ _) dX6_weigh_54 (fun H locs hP hS => ?_)
      obtain ⟨ρ50, e51⟩ : ∃ z, z = up ρ45 k39 9 (nI j48) := ⟨_, rfl⟩
      rw [← e51] at hP
      have hI : CI r S0 ρ50 := by rw [e51]; exact CI_up hI (kind_lt hk39 (by decide)) (SP_plain hk39 rfl (by decide)) ⟨(fun z2 => absurd (Eq.trans (Eq.symm hk39) z2) (by decide)), (fun z2 => absurd (Eq.trans (Eq.symm hk39) z2) (by decide))⟩ hS0
      refine lv_aload_n hx hb dX6_weigh_57 rfl (lv_at hl 2 rfl) ?_
      refine lv_iload hx hb dX6_weigh_58 (lv_at hl 0 rfl) ?_
      refine call_i (cVt (k := 0) (av := [.int (ρ45 k39 9)]) (rest := []) B hP hS (d_X6_accept l E ρ50 r (ρ45 k39 9) hI) lk_RX6_72 (hrecv (ci := 6) B hP (hk_lt (c := 6) (show hk 0 = 6 by decide +kernel) (by decide)) (hcc6 _ _ (show hk 0 = 6 by decide +kernel)) rfl) rfl rfl hl.1 (Nat.le_of_ble_eq_true rfl) ⟨Nat.le_of_ble_eq_true rfl, Nat.le_of_ble_eq_true rfl⟩ ⟨Nat.le_of_ble_eq_true rfl, Nat.le_of_ble_eq_true rfl⟩ dX6_weigh_60) hS (fun r52 ρ53 H locs q54 hP hS => ?_)
      have hI := q54
      exact ret_i B hr hlk hP hS dX6_weigh_63 (hI)
  · skip
    refine lv_if_ne (tgt := 15) hx hb dX6_weigh_6 (by decide) (fun c56 => absurd rfl c56) (fun _ => ?_)
    refine lv_aload_n hx hb dX6_weigh_9 rfl (lv_at hl 0 rfl) ?_
    refine lv_iconst (v := (-1)) hx hb dX6_weigh_10 (by decide) ?_
    refine call_i (cVt (k := 0) (av := [.int (-1)]) (rest := []) B hP hS (d_X6_refuse l E ρ r (-1) hI) lk_RX6_58 (hrecv (ci := 6) B hP (hk_lt (c := 6) (show hk 0 = 6 by decide +kernel) (by decide)) (hcc6 _ _ (show hk 0 = 6 by decide +kernel)) rfl) rfl rfl hl.1 (Nat.le_of_ble_eq_true rfl) ⟨Nat.le_of_ble_eq_true rfl, Nat.le_of_ble_eq_true rfl⟩ ⟨Nat.le_of_ble_eq_true rfl, Nat.le_of_ble_eq_true rfl⟩ dX6_weigh_11) hS (fun r57 ρ58 H locs q59 hP hS => ?_)
    have hI := q59
    exact ret_i B hr hlk hP hS dX6_weigh_14 (hI)

set_option maxHeartbeats 4000000 in
set_option maxRecDepth 100000 in
theorem d_X6_cast (l : Launch) (E : hE) (ρ r : Nat → Nat → Int32) (a1 : Int32) (a2 : Int32) (hI : CI r S0 ρ) : Met l yX6_cast (.code yX6_cast cX6_cast 4 (some .int) :: gw_all) (rmk 7 280) (cPre E ρ [.ref (E.2.1 + 0), .int a1, .int a2]) (cI E (fun v ρ1 => CI r S0 ρ1)) 0 0 (hA E) := by
  refine ent (own := RX6) (by decide) rfl (Nat.le_of_ble_eq_true rfl) ?_
  intro p e s m below meth c ls B hr hlk hl hP hS
  have hx := B.1.1
  have hb := B.1.2.1
  have hown := B.1.2.2.2.1
  have hts := B.1.2.2.2.2
  have hl : lv_has ls 4 [(0, .ref (E.2.1 + 0)), (1, .int a1), (2, .int a2)] := hl
  refine lv_iload_n hx hb dX6_cast_0 rfl (lv_at hl 2 rfl) ?_
  refine lv_iconst (v := 0) hx hb dX6_cast_1 (by decide) ?_
  refine lv_sipush (v := 255) hx hb dX6_cast_2 (by decide) ?_
  refine call_i (cS (av := [.int a2, .int 0, .int 255]) (rest := []) B hP hS (c_isWithin l E ρ a2 0 255 0 255 (by decide) (by decide)) lk_RX6_54 rfl rfl hl.1 (Nat.le_of_ble_eq_true rfl) ⟨Nat.le_of_ble_eq_true rfl, Nat.le_of_ble_eq_true rfl⟩ ⟨Nat.le_of_ble_eq_true rfl, Nat.le_of_ble_eq_true rfl⟩ dX6_cast_5) hS (fun r47 ρ48 H locs q49 hP hS => ?_)
  obtain ⟨rfl, q49⟩ := q49
  rcases q49 with ⟨rfl, q49⟩ | ⟨rfl, q49⟩
  · skip
    refine lv_if_ne (tgt := 17) hx hb dX6_cast_8 (by decide) (fun _ => ?_) (fun c50 => absurd c50 (iR_ne (show iR 1 (1) (1) from ⟨by decide, by decide⟩) (show iR 0 (0) (0) from ⟨by decide, by decide⟩) (by decide)))
    refine lv_aload_n hx hb dX6_cast_17 rfl (lv_at hl 0 rfl) ?_
    refine get6 B hP (show hk 0 = 6 by decide +kernel) 0 (by decide) mw_412 rfl dX6_cast_18 ?_
    refine lv_iload_n hx hb dX6_cast_21 rfl (lv_at hl 1 rfl) ?_
    refine call_q (cVt (k := 1) (av := [.int a1]) (rest := []) B hP hS (d_X5_netAt l E ρ r S0 hS0 1 (show hk 1 = 5 by decide +kernel) a1 hI) lk_RX6_95 (hrecv (ci := 5) B hP (hk_lt (c := 5) (show hk 1 = 5 by decide +kernel) (by decide)) (hcc5 _ _ (show hk 1 = 5 by decide +kernel)) rfl) rfl rfl hl.1 (Nat.le_of_ble_eq_true rfl) ⟨Nat.le_of_ble_eq_true rfl, Nat.le_of_ble_eq_true rfl⟩ ⟨Nat.le_of_ble_eq_true rfl, Nat.le_of_ble_eq_true rfl⟩ dX6_cast_22) hS (fun r51 ρ52 H locs q53 hP hS => ?_)
    obtain ⟨rfl, hI, q53⟩ := q53
    rcases q53 with rfl | ⟨j54, rfl, ej54, uj54⟩
    · skip
      refine W.eq (g2 := F0 m 25 ls [.null]) rfl ?_
      refine lv_astore_nN (lv' := [(3, .null), (0, .ref (E.2.1 + 0)), (1, .int a1), (2, .int a2)]) hx hb dX6_cast_25 rfl hl (by decide) rfl (fun ls hl => ?_)
      refine lv_aload_nN hx hb dX6_cast_26 rfl (lv_at hl 0 rfl) ?_
      refine lv_ifnonnullN hx hb dX6_cast_27 ?_
      refine lv_aload_n hx hb dX6_cast_30 rfl (lv_at hl 1 rfl) ?_
      refine lv_bipush (v := (-2)) hx hb dX6_cast_31 (by decide) ?_
      refine call_i (cVt (k := 0) (av := [.int (-2)]) (rest := []) B hP hS (d_X6_refuse l E ρ r (-2) hI) lk_RX6_58 (hrecv (ci := 6) B hP (hk_lt (c := 6) (show hk 0 = 6 by decide +kernel) (by decide)) (hcc6 _ _ (show hk 0 = 6 by decide +kernel)) rfl) rfl rfl hl.1 (Nat.le_of_ble_eq_true rfl) ⟨Nat.le_of_ble_eq_true rfl, Nat.le_of_ble_eq_true rfl⟩ ⟨Nat.le_of_ble_eq_true rfl, Nat.le_of_ble_eq_true rfl⟩ dX6_cast_33) hS (fun r56 ρ57 H locs q58 hP hS => ?_)
      have hI := q58
      exact ret_i B hr hlk hP hS dX6_cast_36 (hI)
    · skip
      refine W.eq (g2 := F0 m 25 ls [.ref (E.2.1 + (5 + 1 + 42 * j54))]) rfl ?_
      refine lv_astore_n (lv' := [(3, .ref (E.2.1 + (5 + 1 + 42 * j54))), (0, .ref (E.2.1 + 0)), (1, .int a1), (2, .int a2)]) hx hb dX6_cast_25 rfl hl (by decide) rfl (fun ls hl => ?_)
      refine lv_aload_n hx hb dX6_cast_26 rfl (lv_at hl 0 rfl) ?_
      refine lv_ifnonnull (tgt := 37) hx hb dX6_cast_27 (by decide) ?_
      refine lv_aload_n hx hb dX6_cast_37 rfl (lv_at hl 0 rfl) ?_
      refine get2 B hP (lay5n (k := 1) (n := j54) (by decide +kernel) uj54) 11 (by decide) mw_310 rfl dX6_cast_38 ?_
      have i60 : iR (ρ (5 + 1 + 42 * j54) 11) 0 4 := CI_get hI (kind_lt (lay5n (k := 1) (n := j54) (by decide +kernel) uj54) (by decide)) (lay5n (k := 1) (n := j54) (by decide +kernel) uj54) rfl
      obtain ⟨j61, lj61, uj61, ej61⟩ := iR_nat (a := 0) (b := 4) i60
      refine lv_topi (fun z62 ez62 => ?_)
      obtain rfl : z62 = nI j61 := ez62.trans ej61
      refine lv_iconst (v := 4) hx hb dX6_cast_41 (by decide) ?_
      refine lv_icmp_lt (tgt := 52) hx hb dX6_cast_42 (by decide) (fun c63 => ?_) (fun c63 => ?_)
      · skip
        have n64 := (nx_lt (a := j61) (b := 4) (by omega) (by omega)).mp (show (nI j61 < nI 4) from c63)
        refine lv_aload_n hx hb dX6_cast_52 rfl (lv_at hl 1 rfl) ?_
        refine lv_bipush (v := 11) hx hb dX6_cast_53 (by decide) ?_
        have hI : CI r (SL (5 + 1 + 42 * j54) 4) ρ := CI_S hI (fun x hx => by rw [show x = ((5 + 1 + 42 * j54), 4) from hx]; exact RC4.mpr (by rw [show ρ (5 + 1 + 42 * j54) 11 = (nI j61) from ej61]; exact iR_w (nI_iR (j := j61) (a := 0) (b := 3) (by omega) (by omega) (by omega)) (by decide) (by decide)))
        refine call_v (cVt (k := 0) (av := [.int 11]) (rest := []) B hP hS (d_X6_keepForUndo l E ρ r (SL (5 + 1 + 42 * j54) 4) (hSL (lay5n (k := 1) (n := j54) (by decide +kernel) uj54) (by decide)) 11 hI (fun x hx => by rw [show x = _ from hx]; show _ < 364; omega)) lk_RX6_65 (hrecv (ci := 6) B hP (hk_lt (c := 6) (show hk 0 = 6 by decide +kernel) (by decide)) (hcc6 _ _ (show hk 0 = 6 by decide +kernel)) rfl) rfl rfl hl.1 (Nat.le_of_ble_eq_true rfl) ⟨Nat.le_of_ble_eq_true rfl, Nat.le_of_ble_eq_true rfl⟩ ⟨Nat.le_of_ble_eq_true rfl, Nat.le_of_ble_eq_true rfl⟩ dX6_cast_55) hS (fun ρ66 H locs q67 hP hS => ?_)
        have hI := q67
        refine lv_aload_n hx hb dX6_cast_58 rfl (lv_at hl 0 rfl) ?_
        refine get2 B hP (lay5n (k := 1) (n := j54) (by decide +kernel) uj54) 1 (by decide) mw_286 rfl dX6_cast_59 ?_
        refine lv_aload_n hx hb dX6_cast_62 rfl (lv_at hl 0 rfl) ?_
        refine get2 B hP (lay5n (k := 1) (n := j54) (by decide +kernel) uj54) 11 (by decide) mw_310 rfl dX6_cast_63 ?_
        have i69 : iR (ρ66 (5 + 1 + 42 * j54) 11) 0 3 := RC4.mp (hI.2.1 ((5 + 1 + 42 * j54), 4) rfl)
        obtain ⟨j70, lj70, uj70, ej70⟩ := iR_nat (a := 0) (b := 3) i69
        refine lv_topi (fun z71 ez71 => ?_)
        obtain rfl : z71 = nI j70 := ez71.trans ej70
        refine lv_iload_n hx hb dX6_cast_66 rfl (lv_at hl 3 rfl) ?_
        obtain ⟨j72, lj72, uj72, ej72⟩ := iR_nat (a := 0) (b := 255) q49
        refine lv_topi (fun z73 ez73 => ?_)
        obtain rfl : z73 = nI j72 := ez73.trans ej72
        refine astn (n := 4) (j := j70) B hP hS (lay2 (lay5n (k := 1) (n := j54) (by decide +kernel) uj54)).2.1 (lay2 (lay5n (k := 1) (n := j54) (by decide +kernel) uj54)).2.2.1 rfl (by omega) (by decide) dX6_cast_67 (fun H locs hP hS => ?_)
        obtain ⟨ρ74, e75⟩ : ∃ z, z = up ρ66 ((5 + 1 + 42 * j54) + 2) j70 (nI j72) := ⟨_, rfl⟩
        rw [← e75] at hP
        have hI : CI r (SL (5 + 1 + 42 * j54) 4) ρ74 := by rw [e75]; exact CI_up hI (by have := lay2l (lay5n (k := 1) (n := j54) (by decide +kernel) uj54); omega) (SP_plain (lay2 (lay5n (k := 1) (n := j54) (by decide +kernel) uj54)).2.1 rfl (by decide)) ⟨(fun z2 => absurd (Eq.trans (Eq.symm (lay2 (lay5n (k := 1) (n := j54) (by decide +kernel) uj54)).2.1) z2) (by decide)), (fun z2 => absurd (Eq.trans (Eq.symm (lay2 (lay5n (k := 1) (n := j54) (by decide +kernel) uj54)).2.1) z2) (by decide))⟩ (hSL (lay5n (k := 1) (n := j54) (by decide +kernel) uj54) (by decide))
        refine lv_aload_n hx hb dX6_cast_68 rfl (lv_at hl 0 rfl) ?_
        refine lv_dup hx hb dX6_cast_69 rfl ?_
        refine get2 B hP (lay5n (k := 1) (n := j54) (by decide +kernel) uj54) 11 (by decide) mw_310 (v := .int (nI j70)) (show some (Value.int (ρ74 (5 + 1 + 42 * j54) 11)) = some (Value.int (nI j70)) from congrArg (fun z => some (Value.int z)) (by rw [e75]; exact up_get_ne (Or.inl (fun z => absurd (Eq.trans (Eq.symm (lay5n (k := 1) (n := j54) (by decide +kernel) uj54)) (Eq.trans (congrArg hk z) (lay2 (lay5n (k := 1) (n := j54) (by decide +kernel) uj54)).2.1)) (by decide))) ej70)) dX6_cast_70 ?_
        refine lv_iconst (v := 1) hx hb dX6_cast_73 (by decide) ?_
        refine lv_iadd hx hb dX6_cast_74 ?_
        refine lv_topi (fun z76 ez76 => ?_)
        obtain rfl : z76 = (nI (1 + j70)) := ez76.trans (by rw [show (nI j70) = nI j70 from rfl, show 1 = nI 1 from rfl, nI_add] <;> exact congrArg nI (by omega))
        refine put2 B hP hS (lay5n (k := 1) (n := j54) (by decide +kernel) uj54) 11 (by decide) mw_310 rfl rfl rfl (fs2_11 E (5 + 1 + 42 * j54) _ _) dX6_cast_75 (fun H locs hP hS => ?_)
        obtain ⟨ρ77, e78⟩ : ∃ z, z = up ρ74 (5 + 1 + 42 * j54) 11 (nI (1 + j70)) := ⟨_, rfl⟩
        rw [← e78] at hP
        have hI : CI r S0 ρ77 := by rw [e78]; exact CI_upS hI (kind_lt (lay5n (k := 1) (n := j54) (by decide +kernel) uj54) (by decide)) (SP_rng (lay5n (k := 1) (n := j54) (by decide +kernel) uj54) rfl (by decide) (iR_w (a := 1) (b := 4) (nI_iR (j := (1 + j70)) (a := 1) (b := 4) (by omega) (by omega) (by omega)) (by decide) (by decide))) (fun x hx => hx.elim)
        refine lv_aload_n hx hb dX6_cast_78 rfl (lv_at hl 1 rfl) ?_
        refine lv_aload_n hx hb dX6_cast_79 rfl (lv_at hl 0 rfl) ?_
        refine get2 B hP (lay5n (k := 1) (n := j54) (by decide +kernel) uj54) 11 (by decide) mw_310 (v := .int (nI (1 + j70))) (show some (Value.int (ρ77 (5 + 1 + 42 * j54) 11)) = some (Value.int (nI (1 + j70))) from congrArg (fun z => some (Value.int z)) (by rw [e78]; exact up_get_at)) dX6_cast_80 ?_
        refine call_i (cVt (k := 0) (av := [.int (nI (1 + j70))]) (rest := []) B hP hS (d_X6_accept l E ρ77 r (nI (1 + j70)) hI) lk_RX6_72 (hrecv (ci := 6) B hP (hk_lt (c := 6) (show hk 0 = 6 by decide +kernel) (by decide)) (hcc6 _ _ (show hk 0 = 6 by decide +kernel)) rfl) rfl rfl hl.1 (Nat.le_of_ble_eq_true rfl) ⟨Nat.le_of_ble_eq_true rfl, Nat.le_of_ble_eq_true rfl⟩ ⟨Nat.le_of_ble_eq_true rfl, Nat.le_of_ble_eq_true rfl⟩ dX6_cast_83) hS (fun r79 ρ80 H locs q81 hP hS => ?_)
        have hI := q81
        exact ret_i B hr hlk hP hS dX6_cast_86 (hI)
      · skip
        have n83 := mt (nx_lt (a := j61) (b := 4) (by omega) (by omega)).mpr (show ¬ (nI j61 < nI 4) from c63)
        refine lv_aload_n hx hb dX6_cast_45 rfl (lv_at hl 1 rfl) ?_
        refine lv_bipush (v := (-5)) hx hb dX6_cast_46 (by decide) ?_
        refine call_i (cVt (k := 0) (av := [.int (-5)]) (rest := []) B hP hS (d_X6_refuse l E ρ r (-5) hI) lk_RX6_58 (hrecv (ci := 6) B hP (hk_lt (c := 6) (show hk 0 = 6 by decide +kernel) (by decide)) (hcc6 _ _ (show hk 0 = 6 by decide +kernel)) rfl) rfl rfl hl.1 (Nat.le_of_ble_eq_true rfl) ⟨Nat.le_of_ble_eq_true rfl, Nat.le_of_ble_eq_true rfl⟩ ⟨Nat.le_of_ble_eq_true rfl, Nat.le_of_ble_eq_true rfl⟩ dX6_cast_48) hS (fun r84 ρ85 H locs q86 hP hS => ?_)
        have hI := q86
        exact ret_i B hr hlk hP hS dX6_cast_51 (hI)
  · skip
    refine lv_if_ne (tgt := 17) hx hb dX6_cast_8 (by decide) (fun c88 => absurd rfl c88) (fun _ => ?_)
    refine lv_aload_n hx hb dX6_cast_11 rfl (lv_at hl 0 rfl) ?_
    refine lv_iconst (v := (-1)) hx hb dX6_cast_12 (by decide) ?_
    refine call_i (cVt (k := 0) (av := [.int (-1)]) (rest := []) B hP hS (d_X6_refuse l E ρ r (-1) hI) lk_RX6_58 (hrecv (ci := 6) B hP (hk_lt (c := 6) (show hk 0 = 6 by decide +kernel) (by decide)) (hcc6 _ _ (show hk 0 = 6 by decide +kernel)) rfl) rfl rfl hl.1 (Nat.le_of_ble_eq_true rfl) ⟨Nat.le_of_ble_eq_true rfl, Nat.le_of_ble_eq_true rfl⟩ ⟨Nat.le_of_ble_eq_true rfl, Nat.le_of_ble_eq_true rfl⟩ dX6_cast_13) hS (fun r89 ρ90 H locs q91 hP hS => ?_)
    have hI := q91
    exact ret_i B hr hlk hP hS dX6_cast_16 (hI)

theorem lk_RX6_187 : LkS RX6 187 yX6_isMap cX6_isMap 1 (some .boolean) 1 := ⟨⟨mw_607, mw_608, mw_52, mw_609⟩, by decide +kernel⟩
theorem lk_RX6_194 : LkV RX6 194 RX3 yX3_hasNext cX3_hasNext 1 (some .boolean) 0 := ⟨⟨mw_617, mw_618, mw_619, mw_55, mw_620⟩, by decide +kernel⟩
theorem lk_RX6_199 : LkV RX6 199 RX6 yX6_tellMap cX6_tellMap 4 (some .int) 3 := ⟨⟨mw_621, mw_623, mw_3, mw_52, mw_624⟩, by decide +kernel⟩
set_option maxHeartbeats 4000000 in
set_option maxRecDepth 100000 in
theorem d_X6_map (l : Launch) (E : hE) (ρ r : Nat → Nat → Int32) (a1 : Int32) (a2 : Int32) (a3 : Int32) (hI : CI r S0 ρ) : Met l yX6_map (.code yX6_map cX6_map 5 (some .int) :: gw_all) (rmk 8 320) (cPre E ρ [.ref (E.2.1 + 0), .int a1, .int a2, .int a3]) (cI E (fun v ρ1 => CI r S0 ρ1)) 0 0 (hA E) := by
  refine ent (own := RX6) (by decide) rfl (Nat.le_of_ble_eq_true rfl) ?_
  intro p e s m below meth c ls B hr hlk hl hP hS
  have hx := B.1.1
  have hb := B.1.2.1
  have hown := B.1.2.2.2.1
  have hts := B.1.2.2.2.2
  have hl : lv_has ls 5 [(0, .ref (E.2.1 + 0)), (1, .int a1), (2, .int a2), (3, .int a3)] := hl
  have b17_0 : ∀ (ls : Array Slot) (ρ : Nat → Nat → Int32) (H : Heap) (locs : List Loc) , lv_has ls 5 [(0, .ref (E.2.1 + 0))] → WP E ρ H → va_S (hA E) s.heap H locs → CI r S0 ρ → W p l e (rmk 8 320) s m ([.ref (E.2.1 + 0), .int a1, .int a2, .int a3] : List Value).toArray below meth c H locs 0 0 (MQ below (cI E (fun v ρ1 => CI r S0 ρ1)) ([.ref (E.2.1 + 0), .int a1, .int a2, .int a3] : List Value).toArray s 0 0 (hA E)) (F0 m 17 ls []) := by
    intro ls ρ H locs  hl hP hS hI
    refine lv_aload_n hx hb dX6_map_17 rfl (lv_at hl 0 rfl) ?_
    refine lv_iconst (v := (-1)) hx hb dX6_map_18 (by decide) ?_
    refine call_i (cVt (k := 0) (av := [.int (-1)]) (rest := []) B hP hS (d_X6_refuse l E ρ r (-1) hI) lk_RX6_58 (hrecv (ci := 6) B hP (hk_lt (c := 6) (show hk 0 = 6 by decide +kernel) (by decide)) (hcc6 _ _ (show hk 0 = 6 by decide +kernel)) rfl) rfl rfl hl.1 (Nat.le_of_ble_eq_true rfl) ⟨Nat.le_of_ble_eq_true rfl, Nat.le_of_ble_eq_true rfl⟩ ⟨Nat.le_of_ble_eq_true rfl, Nat.le_of_ble_eq_true rfl⟩ dX6_map_19) hS (fun r47 ρ48 H locs q49 hP hS => ?_)
    have hI := q49
    exact ret_i B hr hlk hP hS dX6_map_22 (hI)
  refine lv_iload_n hx hb dX6_map_0 rfl (lv_at hl 2 rfl) ?_
  refine call_i (cS (av := [.int a2]) (rest := []) B hP hS (d_X6_isMap l E ρ r S0 hS0 a2 hI) lk_RX6_187 rfl rfl hl.1 (Nat.le_of_ble_eq_true rfl) ⟨Nat.le_of_ble_eq_true rfl, Nat.le_of_ble_eq_true rfl⟩ ⟨Nat.le_of_ble_eq_true rfl, Nat.le_of_ble_eq_true rfl⟩ dX6_map_1) hS (fun r51 ρ52 H locs q53 hP hS => ?_)
  obtain ⟨rfl, hI, i54⟩ := q53
  obtain ⟨j55, lj55, uj55, ej55⟩ := iR_nat (a := 0) (b := 1) i54
  refine lv_topi (fun z56 ez56 => ?_)
  obtain rfl : z56 = nI j55 := ez56.trans ej55
  refine lv_if_eq (tgt := 17) hx hb dX6_map_4 (by decide) (fun c57 => ?_) (fun c57 => ?_)
  · skip
    have n58 := (nI_eq (a := j55) (b := 0) (by omega) (by omega)).mp (show (nI j55 = nI 0) from c57)
    exact b17_0 ls ρ _ _  (lv_sub hl [0] rfl) hP hS hI 
  · skip
    have n59 := mt (nI_eq (a := j55) (b := 0) (by omega) (by omega)).mpr (show ¬ (nI j55 = nI 0) from c57)
    refine lv_iload_n hx hb dX6_map_7 rfl (lv_at hl 3 rfl) ?_
    refine lv_iconst (v := 1) hx hb dX6_map_8 (by decide) ?_
    refine lv_bipush (v := 100) hx hb dX6_map_9 (by decide) ?_
    refine call_i (cS (av := [.int a3, .int 1, .int 100]) (rest := []) B hP hS (c_isWithin l E ρ a3 1 100 1 100 (by decide) (by decide)) lk_RX6_54 rfl rfl hl.1 (Nat.le_of_ble_eq_true rfl) ⟨Nat.le_of_ble_eq_true rfl, Nat.le_of_ble_eq_true rfl⟩ ⟨Nat.le_of_ble_eq_true rfl, Nat.le_of_ble_eq_true rfl⟩ dX6_map_11) hS (fun r60 ρ61 H locs q62 hP hS => ?_)
    obtain ⟨rfl, q62⟩ := q62
    rcases q62 with ⟨rfl, q62⟩ | ⟨rfl, q62⟩
    · skip
      refine lv_if_ne (tgt := 23) hx hb dX6_map_14 (by decide) (fun _ => ?_) (fun c63 => absurd c63 (iR_ne (show iR 1 (1) (1) from ⟨by decide, by decide⟩) (show iR 0 (0) (0) from ⟨by decide, by decide⟩) (by decide)))
      refine lv_aload_n hx hb dX6_map_23 rfl (lv_at hl 0 rfl) ?_
      refine get6 B hP (show hk 0 = 6 by decide +kernel) 0 (by decide) mw_412 rfl dX6_map_24 ?_
      refine lv_iload_n hx hb dX6_map_27 rfl (lv_at hl 1 rfl) ?_
      refine call_q (cVt (k := 1) (av := [.int a1]) (rest := []) B hP hS (d_X5_netAt l E ρ r S0 hS0 1 (show hk 1 = 5 by decide +kernel) a1 hI) lk_RX6_95 (hrecv (ci := 5) B hP (hk_lt (c := 5) (show hk 1 = 5 by decide +kernel) (by decide)) (hcc5 _ _ (show hk 1 = 5 by decide +kernel)) rfl) rfl rfl hl.1 (Nat.le_of_ble_eq_true rfl) ⟨Nat.le_of_ble_eq_true rfl, Nat.le_of_ble_eq_true rfl⟩ ⟨Nat.le_of_ble_eq_true rfl, Nat.le_of_ble_eq_true rfl⟩ dX6_map_28) hS (fun r64 ρ65 H locs q66 hP hS => ?_)
      obtain ⟨rfl, hI, q66⟩ := q66
      rcases q66 with rfl | ⟨j67, rfl, ej67, uj67⟩
      · skip
        refine W.eq (g2 := F0 m 31 ls [.null]) rfl ?_
        refine lv_astoreN (lv' := [(4, .null), (0, .ref (E.2.1 + 0)), (1, .int a1), (2, .int a2), (3, .int a3)]) hx hb dX6_map_31 hl (by decide) rfl (fun ls hl => ?_)
        refine lv_aloadN hx hb dX6_map_33 (lv_at hl 0 rfl) ?_
        refine lv_ifnonnullN hx hb dX6_map_35 ?_
        refine lv_aload_n hx hb dX6_map_38 rfl (lv_at hl 1 rfl) ?_
        refine lv_bipush (v := (-2)) hx hb dX6_map_39 (by decide) ?_
        refine call_i (cVt (k := 0) (av := [.int (-2)]) (rest := []) B hP hS (d_X6_refuse l E ρ r (-2) hI) lk_RX6_58 (hrecv (ci := 6) B hP (hk_lt (c := 6) (show hk 0 = 6 by decide +kernel) (by decide)) (hcc6 _ _ (show hk 0 = 6 by decide +kernel)) rfl) rfl rfl hl.1 (Nat.le_of_ble_eq_true rfl) ⟨Nat.le_of_ble_eq_true rfl, Nat.le_of_ble_eq_true rfl⟩ ⟨Nat.le_of_ble_eq_true rfl, Nat.le_of_ble_eq_true rfl⟩ dX6_map_41) hS (fun r69 ρ70 H locs q71 hP hS => ?_)
        have hI := q71
        exact ret_i B hr hlk hP hS dX6_map_44 (hI)
      · skip
        refine W.eq (g2 := F0 m 31 ls [.ref (E.2.1 + (5 + 1 + 42 * j67))]) rfl ?_
        refine lv_astore (lv' := [(4, .ref (E.2.1 + (5 + 1 + 42 * j67))), (0, .ref (E.2.1 + 0)), (1, .int a1), (2, .int a2), (3, .int a3)]) hx hb dX6_map_31 hl (by decide) rfl (fun ls hl => ?_)
        refine lv_aload hx hb dX6_map_33 (lv_at hl 0 rfl) ?_
        refine lv_ifnonnull (tgt := 45) hx hb dX6_map_35 (by decide) ?_
        refine lv_aload hx hb dX6_map_45 (lv_at hl 0 rfl) ?_
        refine get2 B hP (lay5n (k := 1) (n := j67) (by decide +kernel) uj67) 0 (by decide) mw_284 rfl dX6_map_47 ?_
        refine call_i (cVt (k := ((5 + 1 + 42 * j67) + 1)) (av := []) (rest := []) B hP hS (d_X3_hasNext l E ρ r S0 hS0 ((5 + 1 + 42 * j67) + 1) (lay2 (lay5n (k := 1) (n := j67) (by decide +kernel) uj67)).1 hI) lk_RX6_194 (hrecv (ci := 3) B hP (hk_lt (c := 3) (lay2 (lay5n (k := 1) (n := j67) (by decide +kernel) uj67)).1 (by decide)) (hcc3 _ _ (lay2 (lay5n (k := 1) (n := j67) (by decide +kernel) uj67)).1) rfl) rfl rfl hl.1 (Nat.le_of_ble_eq_true rfl) ⟨Nat.le_of_ble_eq_true rfl, Nat.le_of_ble_eq_true rfl⟩ ⟨Nat.le_of_ble_eq_true rfl, Nat.le_of_ble_eq_true rfl⟩ dX6_map_50) hS (fun r73 ρ74 H locs q75 hP hS => ?_)
        obtain ⟨rfl, hI, i76⟩ := q75
        obtain ⟨j77, lj77, uj77, ej77⟩ := iR_nat (a := 0) (b := 1) i76
        refine lv_topi (fun z78 ez78 => ?_)
        obtain rfl : z78 = nI j77 := ez78.trans ej77
        refine lv_if_eq (tgt := 63) hx hb dX6_map_53 (by decide) (fun c79 => ?_) (fun c79 => ?_)
        · skip
          have n80 := (nI_eq (a := j77) (b := 0) (by omega) (by omega)).mp (show (nI j77 = nI 0) from c79)
          refine lv_aload_n hx hb dX6_map_63 rfl (lv_at hl 1 rfl) ?_
          refine lv_aload hx hb dX6_map_64 (lv_at hl 0 rfl) ?_
          refine lv_iload_n hx hb dX6_map_66 rfl (lv_at hl 3 rfl) ?_
          refine lv_iload_n hx hb dX6_map_67 rfl (lv_at hl 4 rfl) ?_
          obtain ⟨j81, lj81, uj81, ej81⟩ := iR_nat (a := 1) (b := 100) q62
          refine lv_topi (fun z82 ez82 => ?_)
          obtain rfl : z82 = nI j81 := ez82.trans ej81
          refine call_i (cVt (k := 0) (av := [.ref (E.2.1 + (5 + 1 + 42 * j67)), .int a2, .int (nI j81)]) (rest := []) B hP hS (d_X6_tellMap l E ρ r (5 + 1 + 42 * j67) (lay5n (k := 1) (n := j67) (by decide +kernel) uj67) a2 (nI j81) hI) lk_RX6_199 (hrecv (ci := 6) B hP (hk_lt (c := 6) (show hk 0 = 6 by decide +kernel) (by decide)) (hcc6 _ _ (show hk 0 = 6 by decide +kernel)) rfl) rfl rfl hl.1 (Nat.le_of_ble_eq_true rfl) ⟨Nat.le_of_ble_eq_true rfl, Nat.le_of_ble_eq_true rfl⟩ ⟨Nat.le_of_ble_eq_true rfl, Nat.le_of_ble_eq_true rfl⟩ dX6_map_68) hS (fun r83 ρ84 H locs q85 hP hS => ?_)
          have hI := q85
          exact ret_i B hr hlk hP hS dX6_map_71 (hI)
        · skip
          have n87 := mt (nI_eq (a := j77) (b := 0) (by omega) (by omega)).mpr (show ¬ (nI j77 = nI 0) from c79)
          refine lv_aload_n hx hb dX6_map_56 rfl (lv_at hl 1 rfl) ?_
          refine lv_bipush (v := (-4)) hx hb dX6_map_57 (by decide) ?_
          refine call_i (cVt (k := 0) (av := [.int (-4)]) (rest := []) B hP hS (d_X6_refuse l E ρ r (-4) hI) lk_RX6_58 (hrecv (ci := 6) B hP (hk_lt (c := 6) (show hk 0 = 6 by decide +kernel) (by decide)) (hcc6 _ _ (show hk 0 = 6 by decide +kernel)) rfl) rfl rfl hl.1 (Nat.le_of_ble_eq_true rfl) ⟨Nat.le_of_ble_eq_true rfl, Nat.le_of_ble_eq_true rfl⟩ ⟨Nat.le_of_ble_eq_true rfl, Nat.le_of_ble_eq_true rfl⟩ dX6_map_59) hS (fun r88 ρ89 H locs q90 hP hS => ?_)
          have hI := q90
          exact ret_i B hr hlk hP hS dX6_map_62 (hI)
    · skip
      refine lv_if_ne (tgt := 23) hx hb dX6_map_14 (by decide) (fun c92 => absurd rfl c92) (fun _ => ?_)
      exact b17_0 ls ρ _ _  (lv_sub hl [0] rfl) hP hS hI 

theorem lk_RX6_203 : LkV RX6 203 RX2 yX2_badChannels cX2_badChannels 5 (some .int) 1 := ⟨⟨mw_637, mw_638, mw_639, mw_54, mw_640⟩, by decide +kernel⟩
theorem lk_RX6_209 : LkV RX6 209 RX2 yX2_mostAnswered cX2_mostAnswered 6 (some .int) 0 := ⟨⟨mw_641, mw_642, mw_643, mw_54, mw_644⟩, by decide +kernel⟩
set_option maxHeartbeats 4000000 in
set_option maxRecDepth 100000 in
theorem d_X6_adapt (l : Launch) (E : hE) (ρ r : Nat → Nat → Int32) (a1 : Int32) (a2 : Int32) (a3 : Int32) (hI : CI r S0 ρ) : Met l yX6_adapt (.code yX6_adapt cX6_adapt 7 (some .int) :: gw_all) (rmk 8 320) (cPre E ρ [.ref (E.2.1 + 0), .int a1, .int a2, .int a3]) (cI E (fun v ρ1 => CI r S0 ρ1)) 0 0 (hA E) := by
  refine ent (own := RX6) (by decide) rfl (Nat.le_of_ble_eq_true rfl) ?_
  intro p e s m below meth c ls B hr hlk hl hP hS
  have hx := B.1.1
  have hb := B.1.2.1
  have hown := B.1.2.2.2.1
  have hts := B.1.2.2.2.2
  have hl : lv_has ls 7 [(0, .ref (E.2.1 + 0)), (1, .int a1), (2, .int a2), (3, .int a3)] := hl
  have b115_0 : ∀ (ls : Array Slot) (ρ : Nat → Nat → Int32) (H : Heap) (locs : List Loc) (k115_s1 : Nat) (x115_s2 : Int32), lv_has ls 7 [(3, .int a3)] → WP E ρ H → va_S (hA E) s.heap H locs → CI r S0 ρ → hk k115_s1 = 2 → iR x115_s2 (-2147483648) (2147483647) → iR a1 (0) (1) → iR a2 (1) (99) → iR a3 (1) (100) → W p l e (rmk 8 320) s m ([.ref (E.2.1 + 0), .int a1, .int a2, .int a3] : List Value).toArray below meth c H locs 0 0 (MQ below (cI E (fun v ρ1 => CI r S0 ρ1)) ([.ref (E.2.1 + 0), .int a1, .int a2, .int a3] : List Value).toArray s 0 0 (hA E)) (F0 m 115 ls [.int x115_s2, .ref (E.2.1 + k115_s1), .ref (E.2.1 + 0)]) := by
    intro ls ρ H locs k115_s1 x115_s2 hl hP hS hI hk115_s1 hx115_s2 fa1 fa2 fa3
    refine lv_iload_n hx hb dX6_adapt_115 rfl (lv_at hl 0 rfl) ?_
    obtain ⟨j64, lj64, uj64, ej64⟩ := iR_nat (a := 1) (b := 100) fa3
    refine lv_topi (fun z65 ez65 => ?_)
    obtain rfl : z65 = nI j64 := ez65.trans ej64
    refine call_i (cVt (k := 0) (av := [.ref (E.2.1 + k115_s1), .int x115_s2, .int (nI j64)]) (rest := []) B hP hS (d_X6_tellMap l E ρ r k115_s1 hk115_s1 x115_s2 (nI j64) hI) lk_RX6_199 (hrecv (ci := 6) B hP (hk_lt (c := 6) (show hk 0 = 6 by decide +kernel) (by decide)) (hcc6 _ _ (show hk 0 = 6 by decide +kernel)) rfl) rfl rfl hl.1 (Nat.le_of_ble_eq_true rfl) ⟨Nat.le_of_ble_eq_true rfl, Nat.le_of_ble_eq_true rfl⟩ ⟨Nat.le_of_ble_eq_true rfl, Nat.le_of_ble_eq_true rfl⟩ dX6_adapt_116) hS (fun r66 ρ67 H locs q68 hP hS => ?_)
    have hI := q68
    exact ret_i B hr hlk hP hS dX6_adapt_119 (hI)
  have b72_0 : ∀ (ls : Array Slot) (ρ : Nat → Nat → Int32) (H : Heap) (locs : List Loc) , lv_has ls 7 [(0, .ref (E.2.1 + 0))] → WP E ρ H → va_S (hA E) s.heap H locs → CI r S0 ρ → iR a1 (0) (1) → iR a2 (1) (99) → iR a3 (1) (100) → W p l e (rmk 8 320) s m ([.ref (E.2.1 + 0), .int a1, .int a2, .int a3] : List Value).toArray below meth c H locs 0 0 (MQ below (cI E (fun v ρ1 => CI r S0 ρ1)) ([.ref (E.2.1 + 0), .int a1, .int a2, .int a3] : List Value).toArray s 0 0 (hA E)) (F0 m 72 ls []) := by
    intro ls ρ H locs  hl hP hS hI fa1 fa2 fa3
    refine lv_aload_n hx hb dX6_adapt_72 rfl (lv_at hl 0 rfl) ?_
    refine lv_bipush (v := (-4)) hx hb dX6_adapt_73 (by decide) ?_
    refine call_i (cVt (k := 0) (av := [.int (-4)]) (rest := []) B hP hS (d_X6_refuse l E ρ r (-4) hI) lk_RX6_58 (hrecv (ci := 6) B hP (hk_lt (c := 6) (show hk 0 = 6 by decide +kernel) (by decide)) (hcc6 _ _ (show hk 0 = 6 by decide +kernel)) rfl) rfl rfl hl.1 (Nat.le_of_ble_eq_true rfl) ⟨Nat.le_of_ble_eq_true rfl, Nat.le_of_ble_eq_true rfl⟩ ⟨Nat.le_of_ble_eq_true rfl, Nat.le_of_ble_eq_true rfl⟩ dX6_adapt_75) hS (fun r70 ρ71 H locs q72 hP hS => ?_)
    have hI := q72
    exact ret_i B hr hlk hP hS dX6_adapt_78 (hI)
  have b20_0 : ∀ (ls : Array Slot) (ρ : Nat → Nat → Int32) (H : Heap) (locs : List Loc) , lv_has ls 7 [(0, .ref (E.2.1 + 0))] → WP E ρ H → va_S (hA E) s.heap H locs → CI r S0 ρ → W p l e (rmk 8 320) s m ([.ref (E.2.1 + 0), .int a1, .int a2, .int a3] : List Value).toArray below meth c H locs 0 0 (MQ below (cI E (fun v ρ1 => CI r S0 ρ1)) ([.ref (E.2.1 + 0), .int a1, .int a2, .int a3] : List Value).toArray s 0 0 (hA E)) (F0 m 20 ls []) := by
    intro ls ρ H locs  hl hP hS hI
    refine lv_aload_n hx hb dX6_adapt_20 rfl (lv_at hl 0 rfl) ?_
    refine lv_iconst (v := (-1)) hx hb dX6_adapt_21 (by decide) ?_
    refine call_i (cVt (k := 0) (av := [.int (-1)]) (rest := []) B hP hS (d_X6_refuse l E ρ r (-1) hI) lk_RX6_58 (hrecv (ci := 6) B hP (hk_lt (c := 6) (show hk 0 = 6 by decide +kernel) (by decide)) (hcc6 _ _ (show hk 0 = 6 by decide +kernel)) rfl) rfl rfl hl.1 (Nat.le_of_ble_eq_true rfl) ⟨Nat.le_of_ble_eq_true rfl, Nat.le_of_ble_eq_true rfl⟩ ⟨Nat.le_of_ble_eq_true rfl, Nat.le_of_ble_eq_true rfl⟩ dX6_adapt_22) hS (fun r74 ρ75 H locs q76 hP hS => ?_)
    have hI := q76
    exact ret_i B hr hlk hP hS dX6_adapt_25 (hI)
  refine lv_iload_n hx hb dX6_adapt_0 rfl (lv_at hl 2 rfl) ?_
  refine lv_iconst (v := 1) hx hb dX6_adapt_1 (by decide) ?_
  refine lv_bipush (v := 99) hx hb dX6_adapt_2 (by decide) ?_
  refine call_i (cS (av := [.int a2, .int 1, .int 99]) (rest := []) B hP hS (c_isWithin l E ρ a2 1 99 1 99 (by decide) (by decide)) lk_RX6_54 rfl rfl hl.1 (Nat.le_of_ble_eq_true rfl) ⟨Nat.le_of_ble_eq_true rfl, Nat.le_of_ble_eq_true rfl⟩ ⟨Nat.le_of_ble_eq_true rfl, Nat.le_of_ble_eq_true rfl⟩ dX6_adapt_4) hS (fun r78 ρ79 H locs q80 hP hS => ?_)
  obtain ⟨rfl, q80⟩ := q80
  rcases q80 with ⟨rfl, q80⟩ | ⟨rfl, q80⟩
  · skip
    refine lv_if_eq (tgt := 20) hx hb dX6_adapt_7 (by decide) (fun c81 => absurd c81 (iR_ne (show iR 1 (1) (1) from ⟨by decide, by decide⟩) (show iR 0 (0) (0) from ⟨by decide, by decide⟩) (by decide))) (fun _ => ?_)
    refine lv_iload_n hx hb dX6_adapt_10 rfl (lv_at hl 3 rfl) ?_
    refine lv_iconst (v := 1) hx hb dX6_adapt_11 (by decide) ?_
    refine lv_bipush (v := 100) hx hb dX6_adapt_12 (by decide) ?_
    refine call_i (cS (av := [.int a3, .int 1, .int 100]) (rest := []) B hP hS (c_isWithin l E ρ a3 1 100 1 100 (by decide) (by decide)) lk_RX6_54 rfl rfl hl.1 (Nat.le_of_ble_eq_true rfl) ⟨Nat.le_of_ble_eq_true rfl, Nat.le_of_ble_eq_true rfl⟩ ⟨Nat.le_of_ble_eq_true rfl, Nat.le_of_ble_eq_true rfl⟩ dX6_adapt_14) hS (fun r82 ρ83 H locs q84 hP hS => ?_)
    obtain ⟨rfl, q84⟩ := q84
    rcases q84 with ⟨rfl, q84⟩ | ⟨rfl, q84⟩
    · skip
      refine lv_if_ne (tgt := 26) hx hb dX6_adapt_17 (by decide) (fun _ => ?_) (fun c85 => absurd c85 (iR_ne (show iR 1 (1) (1) from ⟨by decide, by decide⟩) (show iR 0 (0) (0) from ⟨by decide, by decide⟩) (by decide)))
      refine lv_aload_n hx hb dX6_adapt_26 rfl (lv_at hl 0 rfl) ?_
      refine get6 B hP (show hk 0 = 6 by decide +kernel) 0 (by decide) mw_412 rfl dX6_adapt_27 ?_
      refine lv_iload_n hx hb dX6_adapt_30 rfl (lv_at hl 1 rfl) ?_
      refine call_q (cVt (k := 1) (av := [.int a1]) (rest := []) B hP hS (d_X5_netAt l E ρ r S0 hS0 1 (show hk 1 = 5 by decide +kernel) a1 hI) lk_RX6_95 (hrecv (ci := 5) B hP (hk_lt (c := 5) (show hk 1 = 5 by decide +kernel) (by decide)) (hcc5 _ _ (show hk 1 = 5 by decide +kernel)) rfl) rfl rfl hl.1 (Nat.le_of_ble_eq_true rfl) ⟨Nat.le_of_ble_eq_true rfl, Nat.le_of_ble_eq_true rfl⟩ ⟨Nat.le_of_ble_eq_true rfl, Nat.le_of_ble_eq_true rfl⟩ dX6_adapt_31) hS (fun r86 ρ87 H locs q88 hP hS => ?_)
      obtain ⟨rfl, hI, q88⟩ := q88
      rcases q88 with rfl | ⟨j89, rfl, ej89, uj89⟩
      · skip
        refine W.eq (g2 := F0 m 34 ls [.null]) rfl ?_
        refine lv_astoreN (lv' := [(4, .null), (0, .ref (E.2.1 + 0)), (1, .int a1), (2, .int a2), (3, .int a3)]) hx hb dX6_adapt_34 hl (by decide) rfl (fun ls hl => ?_)
        refine lv_aloadN hx hb dX6_adapt_36 (lv_at hl 0 rfl) ?_
        refine lv_ifnonnullN hx hb dX6_adapt_38 ?_
        refine lv_aload_n hx hb dX6_adapt_41 rfl (lv_at hl 1 rfl) ?_
        refine lv_bipush (v := (-2)) hx hb dX6_adapt_42 (by decide) ?_
        refine call_i (cVt (k := 0) (av := [.int (-2)]) (rest := []) B hP hS (d_X6_refuse l E ρ r (-2) hI) lk_RX6_58 (hrecv (ci := 6) B hP (hk_lt (c := 6) (show hk 0 = 6 by decide +kernel) (by decide)) (hcc6 _ _ (show hk 0 = 6 by decide +kernel)) rfl) rfl rfl hl.1 (Nat.le_of_ble_eq_true rfl) ⟨Nat.le_of_ble_eq_true rfl, Nat.le_of_ble_eq_true rfl⟩ ⟨Nat.le_of_ble_eq_true rfl, Nat.le_of_ble_eq_true rfl⟩ dX6_adapt_44) hS (fun r91 ρ92 H locs q93 hP hS => ?_)
        have hI := q93
        exact ret_i B hr hlk hP hS dX6_adapt_47 (hI)
      · skip
        refine W.eq (g2 := F0 m 34 ls [.ref (E.2.1 + (5 + 1 + 42 * j89))]) rfl ?_
        refine lv_astore (lv' := [(4, .ref (E.2.1 + (5 + 1 + 42 * j89))), (0, .ref (E.2.1 + 0)), (1, .int a1), (2, .int a2), (3, .int a3)]) hx hb dX6_adapt_34 hl (by decide) rfl (fun ls hl => ?_)
        refine lv_aload hx hb dX6_adapt_36 (lv_at hl 0 rfl) ?_
        refine lv_ifnonnull (tgt := 48) hx hb dX6_adapt_38 (by decide) ?_
        refine lv_aload hx hb dX6_adapt_48 (lv_at hl 0 rfl) ?_
        refine lv_iload_n hx hb dX6_adapt_50 rfl (lv_at hl 3 rfl) ?_
        obtain ⟨j95, lj95, uj95, ej95⟩ := iR_nat (a := 1) (b := 99) q80
        refine lv_topi (fun z96 ez96 => ?_)
        obtain rfl : z96 = nI j95 := ez96.trans ej95
        refine call_i (cVt (k := (5 + 1 + 42 * j89)) (av := [.int (nI j95)]) (rest := []) B hP hS (d_X2_badChannels l E ρ r S0 hS0 (5 + 1 + 42 * j89) (lay5n (k := 1) (n := j89) (by decide +kernel) uj89) (nI j95) hI) lk_RX6_203 (hrecv (ci := 2) B hP (hk_lt (c := 2) (lay5n (k := 1) (n := j89) (by decide +kernel) uj89) (by decide)) (hcc2 _ _ (lay5n (k := 1) (n := j89) (by decide +kernel) uj89)) rfl) rfl rfl hl.1 (Nat.le_of_ble_eq_true rfl) ⟨Nat.le_of_ble_eq_true rfl, Nat.le_of_ble_eq_true rfl⟩ ⟨Nat.le_of_ble_eq_true rfl, Nat.le_of_ble_eq_true rfl⟩ dX6_adapt_51) hS (fun r97 ρ98 H locs q99 hP hS => ?_)
        obtain ⟨rfl, hI⟩ := q99
        refine lv_istore (lv' := [(5, .int r97), (4, .ref (E.2.1 + (5 + 1 + 42 * j89))), (0, .ref (E.2.1 + 0)), (1, .int a1), (2, .int a2), (3, .int a3)]) hx hb dX6_adapt_54 hl (by decide) rfl (fun ls hl => ?_)
        refine lv_aload hx hb dX6_adapt_56 (lv_at hl 1 rfl) ?_
        refine get2 B hP (lay5n (k := 1) (n := j89) (by decide +kernel) uj89) 0 (by decide) mw_284 rfl dX6_adapt_58 ?_
        refine call_i (cVt (k := ((5 + 1 + 42 * j89) + 1)) (av := []) (rest := []) B hP hS (d_X3_hasNext l E ρ r S0 hS0 ((5 + 1 + 42 * j89) + 1) (lay2 (lay5n (k := 1) (n := j89) (by decide +kernel) uj89)).1 hI) lk_RX6_194 (hrecv (ci := 3) B hP (hk_lt (c := 3) (lay2 (lay5n (k := 1) (n := j89) (by decide +kernel) uj89)).1 (by decide)) (hcc3 _ _ (lay2 (lay5n (k := 1) (n := j89) (by decide +kernel) uj89)).1) rfl) rfl rfl hl.1 (Nat.le_of_ble_eq_true rfl) ⟨Nat.le_of_ble_eq_true rfl, Nat.le_of_ble_eq_true rfl⟩ ⟨Nat.le_of_ble_eq_true rfl, Nat.le_of_ble_eq_true rfl⟩ dX6_adapt_61) hS (fun r101 ρ102 H locs q103 hP hS => ?_)
        obtain ⟨rfl, hI, i104⟩ := q103
        obtain ⟨j105, lj105, uj105, ej105⟩ := iR_nat (a := 0) (b := 1) i104
        refine lv_topi (fun z106 ez106 => ?_)
        obtain rfl : z106 = nI j105 := ez106.trans ej105
        refine lv_if_ne (tgt := 72) hx hb dX6_adapt_64 (by decide) (fun c107 => ?_) (fun c107 => ?_)
        · skip
          have n108 := mt (nI_eq (a := j105) (b := 0) (by omega) (by omega)).mpr (show ¬ (nI j105 = nI 0) from c107)
          exact b72_0 ls ρ _ _  (lv_sub hl [2] rfl) hP hS hI (iR_w (show iR a1 0 1 from by rw [ej89]; exact nI_iR (by omega) (by omega) (by omega)) (by decide) (by decide)) (iR_w q80 (by decide) (by decide)) (iR_w q84 (by decide) (by decide))
        · skip
          have n109 := (nI_eq (a := j105) (b := 0) (by omega) (by omega)).mp (show (nI j105 = nI 0) from c107)
          refine lv_iload hx hb dX6_adapt_67 (lv_at hl 0 rfl) ?_
          refine lv_if_ne (tgt := 79) hx hb dX6_adapt_69 (by decide) (fun c110 => ?_) (fun c110 => ?_)
          · skip
            refine lv_aload hx hb dX6_adapt_79 (lv_at hl 1 rfl) ?_
            refine get2 B hP (lay5n (k := 1) (n := j89) (by decide +kernel) uj89) 0 (by decide) mw_284 rfl dX6_adapt_81 ?_
            refine get3 B hP (lay2 (lay5n (k := 1) (n := j89) (by decide +kernel) uj89)).1 0 (by decide) mw_95 rfl dX6_adapt_84 ?_
            refine lv_iload hx hb dX6_adapt_87 (lv_at hl 0 rfl) ?_
            refine lv_iconst (v := (-1)) hx hb dX6_adapt_89 (by decide) ?_
            refine lv_ixor hx hb dX6_adapt_90 ?_
            refine lv_iand hx hb dX6_adapt_91 ?_
            refine lv_istore (lv' := [(6, .int ((ρ ((5 + 1 + 42 * j89) + 1) 0) &&& (r97 ^^^ (-1)))), (5, .int r97), (4, .ref (E.2.1 + (5 + 1 + 42 * j89))), (0, .ref (E.2.1 + 0)), (1, .int a1), (2, .int a2), (3, .int a3)]) hx hb dX6_adapt_92 hl (by decide) rfl (fun ls hl => ?_)
            refine lv_aload_n hx hb dX6_adapt_94 rfl (lv_at hl 3 rfl) ?_
            refine lv_aload hx hb dX6_adapt_95 (lv_at hl 2 rfl) ?_
            refine lv_iload hx hb dX6_adapt_97 (lv_at hl 0 rfl) ?_
            refine call_i (cS (av := [.int ((ρ ((5 + 1 + 42 * j89) + 1) 0) &&& (r97 ^^^ (-1)))]) (rest := [.ref (E.2.1 + (5 + 1 + 42 * j89)), .ref (E.2.1 + 0)]) B hP hS (d_X6_isMap l E ρ r S0 hS0 ((ρ ((5 + 1 + 42 * j89) + 1) 0) &&& (r97 ^^^ (-1))) hI) lk_RX6_187 rfl rfl hl.1 (Nat.le_of_ble_eq_true rfl) ⟨Nat.le_of_ble_eq_true rfl, Nat.le_of_ble_eq_true rfl⟩ ⟨Nat.le_of_ble_eq_true rfl, Nat.le_of_ble_eq_true rfl⟩ dX6_adapt_99) hS (fun r111 ρ112 H locs q113 hP hS => ?_)
            obtain ⟨rfl, hI, i114⟩ := q113
            obtain ⟨j115, lj115, uj115, ej115⟩ := iR_nat (a := 0) (b := 1) i114
            refine lv_topi (fun z116 ez116 => ?_)
            obtain rfl : z116 = nI j115 := ez116.trans ej115
            refine lv_if_eq (tgt := 110) hx hb dX6_adapt_102 (by decide) (fun c117 => ?_) (fun c117 => ?_)
            · skip
              have n118 := (nI_eq (a := j115) (b := 0) (by omega) (by omega)).mp (show (nI j115 = nI 0) from c117)
              refine lv_aload hx hb dX6_adapt_110 (lv_at hl 2 rfl) ?_
              refine call_i (cVt (k := (5 + 1 + 42 * j89)) (av := []) (rest := [.ref (E.2.1 + (5 + 1 + 42 * j89)), .ref (E.2.1 + 0)]) B hP hS (d_X2_mostAnswered l E ρ r S0 hS0 (5 + 1 + 42 * j89) (lay5n (k := 1) (n := j89) (by decide +kernel) uj89) hI) lk_RX6_209 (hrecv (ci := 2) B hP (hk_lt (c := 2) (lay5n (k := 1) (n := j89) (by decide +kernel) uj89) (by decide)) (hcc2 _ _ (lay5n (k := 1) (n := j89) (by decide +kernel) uj89)) rfl) rfl rfl hl.1 (Nat.le_of_ble_eq_true rfl) ⟨Nat.le_of_ble_eq_true rfl, Nat.le_of_ble_eq_true rfl⟩ ⟨Nat.le_of_ble_eq_true rfl, Nat.le_of_ble_eq_true rfl⟩ dX6_adapt_112) hS (fun r119 ρ120 H locs q121 hP hS => ?_)
              obtain ⟨rfl, hI⟩ := q121
              exact b115_0 ls ρ _ _ (5 + 1 + 42 * j89) (r119 : Int32) (lv_sub hl [6] rfl) hP hS hI (lay5n (k := 1) (n := j89) (by decide +kernel) uj89) (iR_w (iR_any r119) (by decide) (by decide)) (iR_w (show iR a1 0 1 from by rw [ej89]; exact nI_iR (by omega) (by omega) (by omega)) (by decide) (by decide)) (iR_w q80 (by decide) (by decide)) (iR_w q84 (by decide) (by decide))
            · skip
              have n123 := mt (nI_eq (a := j115) (b := 0) (by omega) (by omega)).mpr (show ¬ (nI j115 = nI 0) from c117)
              refine lv_iload hx hb dX6_adapt_105 (lv_at hl 0 rfl) ?_
              refine lv_goto (tgt := 115) hx hb dX6_adapt_107 (by decide) ?_
              exact b115_0 ls ρ _ _ (5 + 1 + 42 * j89) (((ρ ((5 + 1 + 42 * j89) + 1) 0) &&& (r97 ^^^ (-1))) : Int32) (lv_sub hl [6] rfl) hP hS hI (lay5n (k := 1) (n := j89) (by decide +kernel) uj89) (iR_w (iR_any ((ρ ((5 + 1 + 42 * j89) + 1) 0) &&& (r97 ^^^ (-1)))) (by decide) (by decide)) (iR_w (show iR a1 0 1 from by rw [ej89]; exact nI_iR (by omega) (by omega) (by omega)) (by decide) (by decide)) (iR_w q80 (by decide) (by decide)) (iR_w q84 (by decide) (by decide))
          · skip
            have i124 : iR r97 (0) (0) := (by rw [c110]; exact ⟨by decide, by decide⟩)
            exact b72_0 ls ρ _ _  (lv_sub hl [2] rfl) hP hS hI (iR_w (show iR a1 0 1 from by rw [ej89]; exact nI_iR (by omega) (by omega) (by omega)) (by decide) (by decide)) (iR_w q80 (by decide) (by decide)) (iR_w q84 (by decide) (by decide))
    · skip
      refine lv_if_ne (tgt := 26) hx hb dX6_adapt_17 (by decide) (fun c125 => absurd rfl c125) (fun _ => ?_)
      exact b20_0 ls ρ _ _  (lv_sub hl [0] rfl) hP hS hI 
  · skip
    refine lv_if_eq (tgt := 20) hx hb dX6_adapt_7 (by decide) (fun _ => ?_) (fun c126 => absurd rfl c126)
    exact b20_0 ls ρ _ _  (lv_sub hl [0] rfl) hP hS hI 

theorem lk_RX6_213 : LkV RX6 213 RX6 yX6_hasTimeFor cX6_hasTimeFor 2 (some .boolean) 1 := ⟨⟨mw_649, mw_651, mw_4, mw_52, mw_652⟩, by decide +kernel⟩
theorem lk_RX6_216 : LkV RX6 216 RX5 yX5_heardInTurns cX5_heardInTurns 3 (some .int) 1 := ⟨⟨mw_654, mw_655, mw_656, mw_53, mw_657⟩, by decide +kernel⟩
set_option maxHeartbeats 4000000 in
set_option maxRecDepth 100000 in
theorem d_X6_run (l : Launch) (E : hE) (ρ r : Nat → Nat → Int32) (a1 : Int32) (hI : CI r S0 ρ) : Met l yX6_run (.code yX6_run cX6_run 2 (some .int) :: gw_all) (rmk 7 280) (cPre E ρ [.ref (E.2.1 + 0), .int a1]) (cI E (fun v ρ1 => CI r S0 ρ1)) 0 0 (hA E) := by
  refine ent (own := RX6) (by decide) rfl (Nat.le_of_ble_eq_true rfl) ?_
  intro p e s m below meth c ls B hr hlk hl hP hS
  have hx := B.1.1
  have hb := B.1.2.1
  have hown := B.1.2.2.2.1
  have hts := B.1.2.2.2.2
  have hl : lv_has ls 2 [(0, .ref (E.2.1 + 0)), (1, .int a1)] := hl
  refine lv_iload_n hx hb dX6_run_0 rfl (lv_at hl 1 rfl) ?_
  refine lv_iconst (v := 1) hx hb dX6_run_1 (by decide) ?_
  refine lv_sipush (v := 200) hx hb dX6_run_2 (by decide) ?_
  refine call_i (cS (av := [.int a1, .int 1, .int 200]) (rest := []) B hP hS (c_isWithin l E ρ a1 1 200 1 200 (by decide) (by decide)) lk_RX6_54 rfl rfl hl.1 (Nat.le_of_ble_eq_true rfl) ⟨Nat.le_of_ble_eq_true rfl, Nat.le_of_ble_eq_true rfl⟩ ⟨Nat.le_of_ble_eq_true rfl, Nat.le_of_ble_eq_true rfl⟩ dX6_run_5) hS (fun r38 ρ39 H locs q40 hP hS => ?_)
  obtain ⟨rfl, q40⟩ := q40
  rcases q40 with ⟨rfl, q40⟩ | ⟨rfl, q40⟩
  · skip
    refine lv_if_ne (tgt := 17) hx hb dX6_run_8 (by decide) (fun _ => ?_) (fun c41 => absurd c41 (iR_ne (show iR 1 (1) (1) from ⟨by decide, by decide⟩) (show iR 0 (0) (0) from ⟨by decide, by decide⟩) (by decide)))
    refine lv_aload_n hx hb dX6_run_17 rfl (lv_at hl 0 rfl) ?_
    refine lv_iload_n hx hb dX6_run_18 rfl (lv_at hl 1 rfl) ?_
    obtain ⟨j42, lj42, uj42, ej42⟩ := iR_nat (a := 1) (b := 200) q40
    refine lv_topi (fun z43 ez43 => ?_)
    obtain rfl : z43 = nI j42 := ez43.trans ej42
    refine call_i (cVt (k := 0) (av := [.int (nI j42)]) (rest := []) B hP hS (d_X6_hasTimeFor l E ρ r (nI j42) hI) lk_RX6_213 (hrecv (ci := 6) B hP (hk_lt (c := 6) (show hk 0 = 6 by decide +kernel) (by decide)) (hcc6 _ _ (show hk 0 = 6 by decide +kernel)) rfl) rfl rfl hl.1 (Nat.le_of_ble_eq_true rfl) ⟨Nat.le_of_ble_eq_true rfl, Nat.le_of_ble_eq_true rfl⟩ ⟨Nat.le_of_ble_eq_true rfl, Nat.le_of_ble_eq_true rfl⟩ dX6_run_19) hS (fun r44 ρ45 H locs q46 hP hS => ?_)
    obtain ⟨rfl, hI, i47⟩ := q46
    obtain ⟨j48, lj48, uj48, ej48⟩ := iR_nat (a := 0) (b := 1) i47
    refine lv_topi (fun z49 ez49 => ?_)
    obtain rfl : z49 = nI j48 := ez49.trans ej48
    refine lv_if_ne (tgt := 32) hx hb dX6_run_22 (by decide) (fun c50 => ?_) (fun c50 => ?_)
    · skip
      have n51 := mt (nI_eq (a := j48) (b := 0) (by omega) (by omega)).mpr (show ¬ (nI j48 = nI 0) from c50)
      refine lv_aload_n hx hb dX6_run_32 rfl (lv_at hl 0 rfl) ?_
      refine lv_bipush (v := 9) hx hb dX6_run_33 (by decide) ?_
      refine call_v (cVt (k := 0) (av := [.int 9]) (rest := []) B hP hS (d_X6_keepForUndo l E ρ r S0 hS0 9 hI (fun _ q => q.elim)) lk_RX6_65 (hrecv (ci := 6) B hP (hk_lt (c := 6) (show hk 0 = 6 by decide +kernel) (by decide)) (hcc6 _ _ (show hk 0 = 6 by decide +kernel)) rfl) rfl rfl hl.1 (Nat.le_of_ble_eq_true rfl) ⟨Nat.le_of_ble_eq_true rfl, Nat.le_of_ble_eq_true rfl⟩ ⟨Nat.le_of_ble_eq_true rfl, Nat.le_of_ble_eq_true rfl⟩ dX6_run_35) hS (fun ρ53 H locs q54 hP hS => ?_)
      have hI := q54
      refine lv_aload_n hx hb dX6_run_38 rfl (lv_at hl 0 rfl) ?_
      refine lv_aload_n hx hb dX6_run_39 rfl (lv_at hl 0 rfl) ?_
      refine get6 B hP (show hk 0 = 6 by decide +kernel) 0 (by decide) mw_412 rfl dX6_run_40 ?_
      refine lv_iload_n hx hb dX6_run_43 rfl (lv_at hl 1 rfl) ?_
      refine lv_topi (fun z56 ez56 => ?_)
      obtain rfl : z56 = nI j42 := ez56.trans ej42
      refine call_i (cVt (k := 1) (av := [.int (nI j42)]) (rest := [.ref (E.2.1 + 0)]) B hP hS (d_X5_heardInTurns l E ρ53 r 1 (show hk 1 = 5 by decide +kernel) j42 (by omega) (by omega) hI) lk_RX6_216 (hrecv (ci := 5) B hP (hk_lt (c := 5) (show hk 1 = 5 by decide +kernel) (by decide)) (hcc5 _ _ (show hk 1 = 5 by decide +kernel)) rfl) rfl rfl hl.1 (Nat.le_of_ble_eq_true rfl) ⟨Nat.le_of_ble_eq_true rfl, Nat.le_of_ble_eq_true rfl⟩ ⟨Nat.le_of_ble_eq_true rfl, Nat.le_of_ble_eq_true rfl⟩ dX6_run_44) hS (fun r57 ρ58 H locs q59 hP hS => ?_)
      have hI := q59
      refine call_i (cVt (k := 0) (av := [.int r57]) (rest := []) B hP hS (d_X6_accept l E ρ58 r r57 hI) lk_RX6_72 (hrecv (ci := 6) B hP (hk_lt (c := 6) (show hk 0 = 6 by decide +kernel) (by decide)) (hcc6 _ _ (show hk 0 = 6 by decide +kernel)) rfl) rfl rfl hl.1 (Nat.le_of_ble_eq_true rfl) ⟨Nat.le_of_ble_eq_true rfl, Nat.le_of_ble_eq_true rfl⟩ ⟨Nat.le_of_ble_eq_true rfl, Nat.le_of_ble_eq_true rfl⟩ dX6_run_47) hS (fun r61 ρ62 H locs q63 hP hS => ?_)
      have hI := q63
      exact ret_i B hr hlk hP hS dX6_run_50 (hI)
    · skip
      have n65 := (nI_eq (a := j48) (b := 0) (by omega) (by omega)).mp (show (nI j48 = nI 0) from c50)
      refine lv_aload_n hx hb dX6_run_25 rfl (lv_at hl 0 rfl) ?_
      refine lv_bipush (v := (-4)) hx hb dX6_run_26 (by decide) ?_
      refine call_i (cVt (k := 0) (av := [.int (-4)]) (rest := []) B hP hS (d_X6_refuse l E ρ r (-4) hI) lk_RX6_58 (hrecv (ci := 6) B hP (hk_lt (c := 6) (show hk 0 = 6 by decide +kernel) (by decide)) (hcc6 _ _ (show hk 0 = 6 by decide +kernel)) rfl) rfl rfl hl.1 (Nat.le_of_ble_eq_true rfl) ⟨Nat.le_of_ble_eq_true rfl, Nat.le_of_ble_eq_true rfl⟩ ⟨Nat.le_of_ble_eq_true rfl, Nat.le_of_ble_eq_true rfl⟩ dX6_run_28) hS (fun r66 ρ67 H locs q68 hP hS => ?_)
      have hI := q68
      exact ret_i B hr hlk hP hS dX6_run_31 (hI)
  · skip
    refine lv_if_ne (tgt := 17) hx hb dX6_run_8 (by decide) (fun c70 => absurd rfl c70) (fun _ => ?_)
    refine lv_aload_n hx hb dX6_run_11 rfl (lv_at hl 0 rfl) ?_
    refine lv_iconst (v := (-1)) hx hb dX6_run_12 (by decide) ?_
    refine call_i (cVt (k := 0) (av := [.int (-1)]) (rest := []) B hP hS (d_X6_refuse l E ρ r (-1) hI) lk_RX6_58 (hrecv (ci := 6) B hP (hk_lt (c := 6) (show hk 0 = 6 by decide +kernel) (by decide)) (hcc6 _ _ (show hk 0 = 6 by decide +kernel)) rfl) rfl rfl hl.1 (Nat.le_of_ble_eq_true rfl) ⟨Nat.le_of_ble_eq_true rfl, Nat.le_of_ble_eq_true rfl⟩ ⟨Nat.le_of_ble_eq_true rfl, Nat.le_of_ble_eq_true rfl⟩ dX6_run_13) hS (fun r71 ρ72 H locs q73 hP hS => ?_)
    have hI := q73
    exact ret_i B hr hlk hP hS dX6_run_16 (hI)

set_option maxHeartbeats 4000000 in
set_option maxRecDepth 100000 in
theorem d_X6_undo (l : Launch) (E : hE) (ρ r : Nat → Nat → Int32) (hI : CI r S0 ρ) : Met l yX6_undo (.code yX6_undo cX6_undo 1 (some .int) :: gw_all) (rmk 6 240) (cPre E ρ [.ref (E.2.1 + 0)]) (cI E (fun v ρ1 => CI r S0 ρ1)) 0 0 (hA E) := by
  refine ent (own := RX6) (by decide) rfl (Nat.le_of_ble_eq_true rfl) ?_
  intro p e s m below meth c ls B hr hlk hl hP hS
  have hx := B.1.1
  have hb := B.1.2.1
  have hown := B.1.2.2.2.1
  have hts := B.1.2.2.2.2
  have hl : lv_has ls 1 [(0, .ref (E.2.1 + 0))] := hl
  refine lv_aload_n hx hb dX6_undo_0 rfl (lv_at hl 0 rfl) ?_
  refine get6 B hP (show hk 0 = 6 by decide +kernel) 7 (by decide) mw_419 rfl dX6_undo_1 ?_
  refine lv_if_ne (tgt := 14) hx hb dX6_undo_4 (by decide) (fun c31 => ?_) (fun c31 => ?_)
  · skip
    refine lv_aload_n hx hb dX6_undo_14 rfl (lv_at hl 0 rfl) ?_
    refine lv_aload_n hx hb dX6_undo_15 rfl (lv_at hl 0 rfl) ?_
    refine get6 B hP (show hk 0 = 6 by decide +kernel) 6 (by decide) mw_418 rfl dX6_undo_16 ?_
    have i32 : iR (ρ 0 6) 0 7 := CI_get hI (by decide) (show hk 0 = 6 by decide +kernel) rfl
    obtain ⟨j33, lj33, uj33, ej33⟩ := iR_nat (a := 0) (b := 7) i32
    refine lv_topi (fun z34 ez34 => ?_)
    obtain rfl : z34 = nI j33 := ez34.trans ej33
    refine lv_bipush (v := 8) hx hb dX6_undo_19 (by decide) ?_
    refine lv_iadd hx hb dX6_undo_21 ?_
    refine lv_topi (fun z35 ez35 => ?_)
    obtain rfl : z35 = (nI (8 + j33)) := ez35.trans (by rw [show (nI j33) = nI j33 from rfl, show 8 = nI 8 from rfl, nI_add] <;> exact congrArg nI (by omega))
    refine lv_iconst (v := 1) hx hb dX6_undo_22 (by decide) ?_
    refine lv_isub hx hb dX6_undo_23 ?_
    obtain ⟨j36, lj36, uj36, ej36⟩ := iR_nat (a := 7) (b := 14) (iR_sub (a' := 7) (b' := 14) (nI_iR (j := (8 + j33)) (a := 8) (b := 15) (by omega) (by omega) (by omega)) (show iR 1 (1) (1) from ⟨by decide, by decide⟩) (by decide) (by decide) (by decide) (by decide))
    refine lv_topi (fun z37 ez37 => ?_)
    obtain rfl : z37 = nI j36 := ez37.trans ej36
    refine lv_bipush (v := 8) hx hb dX6_undo_24 (by decide) ?_
    refine lv_irem hx hb dX6_undo_26 (by decide) ?_
    obtain ⟨j38, m39, ej38⟩ := nI_rem (a := j36) (b := 8) (by omega) (by omega) (by omega)
    refine lv_topi (fun z40 ez40 => ?_)
    obtain rfl : z40 = (nI j38) := ez40.trans ej38
    refine put6 B hP hS (show hk 0 = 6 by decide +kernel) 6 (by decide) mw_418 rfl rfl rfl (fs6_6 E 0 _ _) dX6_undo_27 (fun H locs hP hS => ?_)
    obtain ⟨ρ41, e42⟩ : ∃ z, z = up ρ 0 6 (nI j38) := ⟨_, rfl⟩
    rw [← e42] at hP
    have hI : CI r S0 ρ41 := by rw [e42]; exact CI_up hI (by decide) (SP_rng (show hk 0 = 6 by decide +kernel) rfl (by decide) (iR_w (a := 0) (b := 7) (nI_iR (j := j38) (a := 0) (b := 7) (by omega) (by omega) (by omega)) (by decide) (by decide))) ⟨(fun z2 => absurd (Eq.trans (Eq.symm (show hk 0 = 6 by decide +kernel)) z2) (by decide)), (fun z2 => absurd (Eq.trans (Eq.symm (show hk 0 = 6 by decide +kernel)) z2) (by decide))⟩ hS0
    refine lv_aload_n hx hb dX6_undo_30 rfl (lv_at hl 0 rfl) ?_
    refine lv_dup hx hb dX6_undo_31 rfl ?_
    refine get6 B hP (show hk 0 = 6 by decide +kernel) 7 (by decide) mw_419 (v := .int (ρ 0 7)) (show some (Value.int (ρ41 0 7)) = some (Value.int (ρ 0 7)) from congrArg (fun z => some (Value.int z)) (by rw [e42]; exact up_get_ne (Or.inr (by decide)) rfl)) dX6_undo_32 ?_
    refine lv_iconst (v := 1) hx hb dX6_undo_35 (by decide) ?_
    refine lv_isub hx hb dX6_undo_36 ?_
    refine put6 B hP hS (show hk 0 = 6 by decide +kernel) 7 (by decide) mw_419 rfl rfl rfl (fs6_7 E 0 _ _) dX6_undo_37 (fun H locs hP hS => ?_)
    obtain ⟨ρ43, e44⟩ : ∃ z, z = up ρ41 0 7 ((ρ 0 7) - 1) := ⟨_, rfl⟩
    rw [← e44] at hP
    have hI : CI r S0 ρ43 := by rw [e44]; exact CI_up hI (by decide) (SP_plain (show hk 0 = 6 by decide +kernel) rfl (by decide)) ⟨(fun z2 => absurd (Eq.trans (Eq.symm (show hk 0 = 6 by decide +kernel)) z2) (by decide)), (fun z2 => absurd (Eq.trans (Eq.symm (show hk 0 = 6 by decide +kernel)) z2) (by decide))⟩ hS0
    refine lv_aload_n hx hb dX6_undo_40 rfl (lv_at hl 0 rfl) ?_
    refine get6 B hP (show hk 0 = 6 by decide +kernel) 0 (by decide) mw_412 rfl dX6_undo_41 ?_
    refine lv_aload_n hx hb dX6_undo_44 rfl (lv_at hl 0 rfl) ?_
    refine get6 B hP (show hk 0 = 6 by decide +kernel) 4 (by decide) mw_416 rfl dX6_undo_45 ?_
    refine lv_aload_n hx hb dX6_undo_48 rfl (lv_at hl 0 rfl) ?_
    refine get6 B hP (show hk 0 = 6 by decide +kernel) 6 (by decide) mw_418 (v := .int (nI j38)) (show some (Value.int (ρ43 0 6)) = some (Value.int (nI j38)) from congrArg (fun z => some (Value.int z)) (by rw [e44]; exact up_get_ne (Or.inr (by decide)) (by rw [e42]; exact up_get_at))) dX6_undo_49 ?_
    refine aldWn (n := 8) (j := j38) B hP (show hk 181 = 12 by decide +kernel) (show hlen 181 = 8 by decide +kernel) rfl (by omega) (by decide) dX6_undo_52 ?_
    refine call_v (cVt (k := 1) (av := [.ref (E.2.1 + (hw 181 + 89 * j38))]) (rest := []) B hP hS (d_X5_copyFrom l E ρ43 r S0 hS0 1 (show hk 1 = 5 by decide +kernel) (hw 181 + 89 * j38) (hw_181 (by omega)) hI (fun _ q => q.elim)) lk_RX6_219 (hrecv (ci := 5) B hP (hk_lt (c := 5) (show hk 1 = 5 by decide +kernel) (by decide)) (hcc5 _ _ (show hk 1 = 5 by decide +kernel)) rfl) rfl rfl hl.1 (Nat.le_of_ble_eq_true rfl) ⟨Nat.le_of_ble_eq_true rfl, Nat.le_of_ble_eq_true rfl⟩ ⟨Nat.le_of_ble_eq_true rfl, Nat.le_of_ble_eq_true rfl⟩ dX6_undo_53) hS (fun ρ46 H locs q47 hP hS => ?_)
    have hI := q47
    refine lv_aload_n hx hb dX6_undo_56 rfl (lv_at hl 0 rfl) ?_
    refine lv_aload_n hx hb dX6_undo_57 rfl (lv_at hl 0 rfl) ?_
    refine get6 B hP (show hk 0 = 6 by decide +kernel) 5 (by decide) mw_417 rfl dX6_undo_58 ?_
    refine lv_aload_n hx hb dX6_undo_61 rfl (lv_at hl 0 rfl) ?_
    refine get6 B hP (show hk 0 = 6 by decide +kernel) 6 (by decide) mw_418 rfl dX6_undo_62 ?_
    have i49 : iR (ρ46 0 6) 0 7 := CI_get hI (by decide) (show hk 0 = 6 by decide +kernel) rfl
    obtain ⟨j50, lj50, uj50, ej50⟩ := iR_nat (a := 0) (b := 7) i49
    refine lv_topi (fun z51 ez51 => ?_)
    obtain rfl : z51 = nI j50 := ez51.trans ej50
    refine aldn (n := 8) (j := j50) B hP (show hk 182 = 8 by decide +kernel) (show hlen 182 = 8 by decide +kernel) rfl (by omega) (by decide) dX6_undo_65 ?_
    refine call_i (cVt (k := 0) (av := [.int (ρ46 182 j50)]) (rest := []) B hP hS (d_X6_accept l E ρ46 r (ρ46 182 j50) hI) lk_RX6_72 (hrecv (ci := 6) B hP (hk_lt (c := 6) (show hk 0 = 6 by decide +kernel) (by decide)) (hcc6 _ _ (show hk 0 = 6 by decide +kernel)) rfl) rfl rfl hl.1 (Nat.le_of_ble_eq_true rfl) ⟨Nat.le_of_ble_eq_true rfl, Nat.le_of_ble_eq_true rfl⟩ ⟨Nat.le_of_ble_eq_true rfl, Nat.le_of_ble_eq_true rfl⟩ dX6_undo_66) hS (fun r52 ρ53 H locs q54 hP hS => ?_)
    have hI := q54
    exact ret_i B hr hlk hP hS dX6_undo_69 (hI)
  · skip
    have i56 : iR (ρ 0 7) (0) (0) := (by rw [c31]; exact ⟨by decide, by decide⟩)
    refine lv_aload_n hx hb dX6_undo_7 rfl (lv_at hl 0 rfl) ?_
    refine lv_bipush (v := (-4)) hx hb dX6_undo_8 (by decide) ?_
    refine call_i (cVt (k := 0) (av := [.int (-4)]) (rest := []) B hP hS (d_X6_refuse l E ρ r (-4) hI) lk_RX6_58 (hrecv (ci := 6) B hP (hk_lt (c := 6) (show hk 0 = 6 by decide +kernel) (by decide)) (hcc6 _ _ (show hk 0 = 6 by decide +kernel)) rfl) rfl rfl hl.1 (Nat.le_of_ble_eq_true rfl) ⟨Nat.le_of_ble_eq_true rfl, Nat.le_of_ble_eq_true rfl⟩ ⟨Nat.le_of_ble_eq_true rfl, Nat.le_of_ble_eq_true rfl⟩ dX6_undo_10) hS (fun r57 ρ58 H locs q59 hP hS => ?_)
    have hI := q59
    exact ret_i B hr hlk hP hS dX6_undo_13 (hI)

set_option maxHeartbeats 4000000 in
set_option maxRecDepth 100000 in
theorem d_X6_image (l : Launch) (E : hE) (ρ r : Nat → Nat → Int32) (a1 : Int32) (hI : CI r S0 ρ) : Met l yX6_image (.code yX6_image cX6_image 2 (some .int) :: gw_all) (rmk 6 240) (cPre E ρ [.ref (E.2.1 + 0), .int a1]) (cI E (fun v ρ1 => CI r S0 ρ1)) 0 0 (hA E) := by
  refine ent (own := RX6) (by decide) rfl (Nat.le_of_ble_eq_true rfl) ?_
  intro p e s m below meth c ls B hr hlk hl hP hS
  have hx := B.1.1
  have hb := B.1.2.1
  have hown := B.1.2.2.2.1
  have hts := B.1.2.2.2.2
  have hl : lv_has ls 2 [(0, .ref (E.2.1 + 0)), (1, .int a1)] := hl
  refine lv_iload_n hx hb dX6_image_0 rfl (lv_at hl 1 rfl) ?_
  refine lv_iconst (v := 0) hx hb dX6_image_1 (by decide) ?_
  refine lv_iconst (v := 1) hx hb dX6_image_2 (by decide) ?_
  refine call_i (cS (av := [.int a1, .int 0, .int 1]) (rest := []) B hP hS (c_isWithin l E ρ a1 0 1 0 1 (by decide) (by decide)) lk_RX6_54 rfl rfl hl.1 (Nat.le_of_ble_eq_true rfl) ⟨Nat.le_of_ble_eq_true rfl, Nat.le_of_ble_eq_true rfl⟩ ⟨Nat.le_of_ble_eq_true rfl, Nat.le_of_ble_eq_true rfl⟩ dX6_image_3) hS (fun r23 ρ24 H locs q25 hP hS => ?_)
  obtain ⟨rfl, q25⟩ := q25
  rcases q25 with ⟨rfl, q25⟩ | ⟨rfl, q25⟩
  · skip
    refine lv_if_ne (tgt := 15) hx hb dX6_image_6 (by decide) (fun _ => ?_) (fun c26 => absurd c26 (iR_ne (show iR 1 (1) (1) from ⟨by decide, by decide⟩) (show iR 0 (0) (0) from ⟨by decide, by decide⟩) (by decide)))
    refine lv_aload_n hx hb dX6_image_15 rfl (lv_at hl 0 rfl) ?_
    refine get6 B hP (show hk 0 = 6 by decide +kernel) 2 (by decide) mw_414 rfl dX6_image_16 ?_
    refine lv_iload_n hx hb dX6_image_19 rfl (lv_at hl 1 rfl) ?_
    obtain ⟨j27, lj27, uj27, ej27⟩ := iR_nat (a := 0) (b := 1) q25
    refine lv_topi (fun z28 ez28 => ?_)
    obtain rfl : z28 = nI j27 := ez28.trans ej27
    refine aldWn (n := 2) (j := j27) B hP (show hk 179 = 12 by decide +kernel) (show hlen 179 = 2 by decide +kernel) rfl (by omega) (by decide) dX6_image_20 ?_
    refine lv_aload_n hx hb dX6_image_21 rfl (lv_at hl 0 rfl) ?_
    refine get6 B hP (show hk 0 = 6 by decide +kernel) 0 (by decide) mw_412 rfl dX6_image_22 ?_
    refine call_v (cVt (k := (hw 179 + 89 * j27)) (av := [.ref (E.2.1 + 1)]) (rest := []) B hP hS (d_X5_copyFrom l E ρ r S0 hS0 (hw 179 + 89 * j27) (hw_179 (by omega)) 1 (show hk 1 = 5 by decide +kernel) hI (fun _ q => q.elim)) lk_RX6_219 (hrecv (ci := 5) B hP (hk_lt (c := 5) (hw_179 (by omega)) (by decide)) (hcc5 _ _ (hw_179 (by omega))) rfl) rfl rfl hl.1 (Nat.le_of_ble_eq_true rfl) ⟨Nat.le_of_ble_eq_true rfl, Nat.le_of_ble_eq_true rfl⟩ ⟨Nat.le_of_ble_eq_true rfl, Nat.le_of_ble_eq_true rfl⟩ dX6_image_25) hS (fun ρ30 H locs q31 hP hS => ?_)
    have hI := q31
    refine lv_aload_n hx hb dX6_image_28 rfl (lv_at hl 0 rfl) ?_
    refine get6 B hP (show hk 0 = 6 by decide +kernel) 3 (by decide) mw_415 rfl dX6_image_29 ?_
    refine lv_iload_n hx hb dX6_image_32 rfl (lv_at hl 1 rfl) ?_
    refine lv_topi (fun z33 ez33 => ?_)
    obtain rfl : z33 = nI j27 := ez33.trans ej27
    refine lv_iconst (v := 1) hx hb dX6_image_33 (by decide) ?_
    refine zstn (n := 2) (j := j27) B hP hS (show hk 180 = 9 by decide +kernel) (show hlen 180 = 2 by decide +kernel) rfl (by omega) (by decide) rfl dX6_image_34 (fun H locs hP hS => ?_)
    obtain ⟨ρ34, e35⟩ : ∃ z, z = up ρ30 180 j27 1 := ⟨_, rfl⟩
    rw [← e35] at hP
    have hI : CI r S0 ρ34 := by rw [e35]; exact CI_up hI (by decide) (SP_rng (show hk 180 = 9 by decide +kernel) rfl (by decide) (iR_w (a := 1) (b := 1) (show iR 1 (1) (1) from ⟨by decide, by decide⟩) (by decide) (by decide))) ⟨(fun z2 => absurd (Eq.trans (Eq.symm (show hk 180 = 9 by decide +kernel)) z2) (by decide)), (fun z2 => absurd (Eq.trans (Eq.symm (show hk 180 = 9 by decide +kernel)) z2) (by decide))⟩ hS0
    refine lv_aload_n hx hb dX6_image_35 rfl (lv_at hl 0 rfl) ?_
    refine lv_aload_n hx hb dX6_image_36 rfl (lv_at hl 0 rfl) ?_
    refine get6 B hP (show hk 0 = 6 by decide +kernel) 0 (by decide) mw_412 rfl dX6_image_37 ?_
    refine get5 B hP (show hk 1 = 5 by decide +kernel) 5 (by decide) mw_382 rfl dX6_image_40 ?_
    refine call_i (cVt (k := 0) (av := [.int (ρ34 1 5)]) (rest := []) B hP hS (d_X6_accept l E ρ34 r (ρ34 1 5) hI) lk_RX6_72 (hrecv (ci := 6) B hP (hk_lt (c := 6) (show hk 0 = 6 by decide +kernel) (by decide)) (hcc6 _ _ (show hk 0 = 6 by decide +kernel)) rfl) rfl rfl hl.1 (Nat.le_of_ble_eq_true rfl) ⟨Nat.le_of_ble_eq_true rfl, Nat.le_of_ble_eq_true rfl⟩ ⟨Nat.le_of_ble_eq_true rfl, Nat.le_of_ble_eq_true rfl⟩ dX6_image_43) hS (fun r36 ρ37 H locs q38 hP hS => ?_)
    have hI := q38
    exact ret_i B hr hlk hP hS dX6_image_46 (hI)
  · skip
    refine lv_if_ne (tgt := 15) hx hb dX6_image_6 (by decide) (fun c40 => absurd rfl c40) (fun _ => ?_)
    refine lv_aload_n hx hb dX6_image_9 rfl (lv_at hl 0 rfl) ?_
    refine lv_iconst (v := (-1)) hx hb dX6_image_10 (by decide) ?_
    refine call_i (cVt (k := 0) (av := [.int (-1)]) (rest := []) B hP hS (d_X6_refuse l E ρ r (-1) hI) lk_RX6_58 (hrecv (ci := 6) B hP (hk_lt (c := 6) (show hk 0 = 6 by decide +kernel) (by decide)) (hcc6 _ _ (show hk 0 = 6 by decide +kernel)) rfl) rfl rfl hl.1 (Nat.le_of_ble_eq_true rfl) ⟨Nat.le_of_ble_eq_true rfl, Nat.le_of_ble_eq_true rfl⟩ ⟨Nat.le_of_ble_eq_true rfl, Nat.le_of_ble_eq_true rfl⟩ dX6_image_11) hS (fun r41 ρ42 H locs q43 hP hS => ?_)
    have hI := q43
    exact ret_i B hr hlk hP hS dX6_image_14 (hI)

set_option maxHeartbeats 4000000 in
set_option maxRecDepth 100000 in
theorem d_X6_back (l : Launch) (E : hE) (ρ r : Nat → Nat → Int32) (a1 : Int32) (hI : CI r S0 ρ) : Met l yX6_back (.code yX6_back cX6_back 2 (some .int) :: gw_all) (rmk 6 240) (cPre E ρ [.ref (E.2.1 + 0), .int a1]) (cI E (fun v ρ1 => CI r S0 ρ1)) 0 0 (hA E) := by
  refine ent (own := RX6) (by decide) rfl (Nat.le_of_ble_eq_true rfl) ?_
  intro p e s m below meth c ls B hr hlk hl hP hS
  have hx := B.1.1
  have hb := B.1.2.1
  have hown := B.1.2.2.2.1
  have hts := B.1.2.2.2.2
  have hl : lv_has ls 2 [(0, .ref (E.2.1 + 0)), (1, .int a1)] := hl
  refine lv_iload_n hx hb dX6_back_0 rfl (lv_at hl 1 rfl) ?_
  refine lv_iconst (v := 0) hx hb dX6_back_1 (by decide) ?_
  refine lv_iconst (v := 1) hx hb dX6_back_2 (by decide) ?_
  refine call_i (cS (av := [.int a1, .int 0, .int 1]) (rest := []) B hP hS (c_isWithin l E ρ a1 0 1 0 1 (by decide) (by decide)) lk_RX6_54 rfl rfl hl.1 (Nat.le_of_ble_eq_true rfl) ⟨Nat.le_of_ble_eq_true rfl, Nat.le_of_ble_eq_true rfl⟩ ⟨Nat.le_of_ble_eq_true rfl, Nat.le_of_ble_eq_true rfl⟩ dX6_back_3) hS (fun r31 ρ32 H locs q33 hP hS => ?_)
  obtain ⟨rfl, q33⟩ := q33
  rcases q33 with ⟨rfl, q33⟩ | ⟨rfl, q33⟩
  · skip
    refine lv_if_ne (tgt := 15) hx hb dX6_back_6 (by decide) (fun _ => ?_) (fun c34 => absurd c34 (iR_ne (show iR 1 (1) (1) from ⟨by decide, by decide⟩) (show iR 0 (0) (0) from ⟨by decide, by decide⟩) (by decide)))
    refine lv_aload_n hx hb dX6_back_15 rfl (lv_at hl 0 rfl) ?_
    refine get6 B hP (show hk 0 = 6 by decide +kernel) 3 (by decide) mw_415 rfl dX6_back_16 ?_
    refine lv_iload_n hx hb dX6_back_19 rfl (lv_at hl 1 rfl) ?_
    obtain ⟨j35, lj35, uj35, ej35⟩ := iR_nat (a := 0) (b := 1) q33
    refine lv_topi (fun z36 ez36 => ?_)
    obtain rfl : z36 = nI j35 := ez36.trans ej35
    refine zldn (n := 2) (j := j35) B hP (show hk 180 = 9 by decide +kernel) (show hlen 180 = 2 by decide +kernel) rfl (by omega) (by decide) dX6_back_20 ?_
    have i37 : iR (ρ 180 j35) 0 1 := CI_get hI (by decide) (show hk 180 = 9 by decide +kernel) rfl
    refine lv_if_ne (tgt := 31) hx hb dX6_back_21 (by decide) (fun c38 => ?_) (fun c38 => ?_)
    · skip
      have i39 : iR (ρ 180 j35) (1) (1) := (iR_neL i37 (show iR 0 (0) (0) from ⟨by decide, by decide⟩) c38 (by decide) (by decide))
      refine lv_aload_n hx hb dX6_back_31 rfl (lv_at hl 0 rfl) ?_
      refine get6 B hP (show hk 0 = 6 by decide +kernel) 0 (by decide) mw_412 rfl dX6_back_32 ?_
      refine lv_aload_n hx hb dX6_back_35 rfl (lv_at hl 0 rfl) ?_
      refine get6 B hP (show hk 0 = 6 by decide +kernel) 2 (by decide) mw_414 rfl dX6_back_36 ?_
      refine lv_iload_n hx hb dX6_back_39 rfl (lv_at hl 1 rfl) ?_
      refine lv_topi (fun z40 ez40 => ?_)
      obtain rfl : z40 = nI j35 := ez40.trans ej35
      refine aldWn (n := 2) (j := j35) B hP (show hk 179 = 12 by decide +kernel) (show hlen 179 = 2 by decide +kernel) rfl (by omega) (by decide) dX6_back_40 ?_
      refine call_v (cVt (k := 1) (av := [.ref (E.2.1 + (hw 179 + 89 * j35))]) (rest := []) B hP hS (d_X5_copyFrom l E ρ r S0 hS0 1 (show hk 1 = 5 by decide +kernel) (hw 179 + 89 * j35) (hw_179 (by omega)) hI (fun _ q => q.elim)) lk_RX6_219 (hrecv (ci := 5) B hP (hk_lt (c := 5) (show hk 1 = 5 by decide +kernel) (by decide)) (hcc5 _ _ (show hk 1 = 5 by decide +kernel)) rfl) rfl rfl hl.1 (Nat.le_of_ble_eq_true rfl) ⟨Nat.le_of_ble_eq_true rfl, Nat.le_of_ble_eq_true rfl⟩ ⟨Nat.le_of_ble_eq_true rfl, Nat.le_of_ble_eq_true rfl⟩ dX6_back_41) hS (fun ρ42 H locs q43 hP hS => ?_)
      have hI := q43
      refine lv_aload_n hx hb dX6_back_44 rfl (lv_at hl 0 rfl) ?_
      refine lv_iconst (v := 0) hx hb dX6_back_45 (by decide) ?_
      refine put6 B hP hS (show hk 0 = 6 by decide +kernel) 7 (by decide) mw_419 rfl rfl rfl (fs6_7 E 0 _ _) dX6_back_46 (fun H locs hP hS => ?_)
      obtain ⟨ρ45, e46⟩ : ∃ z, z = up ρ42 0 7 0 := ⟨_, rfl⟩
      rw [← e46] at hP
      have hI : CI r S0 ρ45 := by rw [e46]; exact CI_up hI (by decide) (SP_plain (show hk 0 = 6 by decide +kernel) rfl (by decide)) ⟨(fun z2 => absurd (Eq.trans (Eq.symm (show hk 0 = 6 by decide +kernel)) z2) (by decide)), (fun z2 => absurd (Eq.trans (Eq.symm (show hk 0 = 6 by decide +kernel)) z2) (by decide))⟩ hS0
      refine lv_aload_n hx hb dX6_back_49 rfl (lv_at hl 0 rfl) ?_
      refine lv_aload_n hx hb dX6_back_50 rfl (lv_at hl 0 rfl) ?_
      refine get6 B hP (show hk 0 = 6 by decide +kernel) 0 (by decide) mw_412 rfl dX6_back_51 ?_
      refine get5 B hP (show hk 1 = 5 by decide +kernel) 5 (by decide) mw_382 rfl dX6_back_54 ?_
      refine call_i (cVt (k := 0) (av := [.int (ρ45 1 5)]) (rest := []) B hP hS (d_X6_accept l E ρ45 r (ρ45 1 5) hI) lk_RX6_72 (hrecv (ci := 6) B hP (hk_lt (c := 6) (show hk 0 = 6 by decide +kernel) (by decide)) (hcc6 _ _ (show hk 0 = 6 by decide +kernel)) rfl) rfl rfl hl.1 (Nat.le_of_ble_eq_true rfl) ⟨Nat.le_of_ble_eq_true rfl, Nat.le_of_ble_eq_true rfl⟩ ⟨Nat.le_of_ble_eq_true rfl, Nat.le_of_ble_eq_true rfl⟩ dX6_back_57) hS (fun r47 ρ48 H locs q49 hP hS => ?_)
      have hI := q49
      exact ret_i B hr hlk hP hS dX6_back_60 (hI)
    · skip
      have i51 : iR (ρ 180 j35) (0) (0) := (by rw [c38]; exact ⟨by decide, by decide⟩)
      refine lv_aload_n hx hb dX6_back_24 rfl (lv_at hl 0 rfl) ?_
      refine lv_bipush (v := (-4)) hx hb dX6_back_25 (by decide) ?_
      refine call_i (cVt (k := 0) (av := [.int (-4)]) (rest := []) B hP hS (d_X6_refuse l E ρ r (-4) hI) lk_RX6_58 (hrecv (ci := 6) B hP (hk_lt (c := 6) (show hk 0 = 6 by decide +kernel) (by decide)) (hcc6 _ _ (show hk 0 = 6 by decide +kernel)) rfl) rfl rfl hl.1 (Nat.le_of_ble_eq_true rfl) ⟨Nat.le_of_ble_eq_true rfl, Nat.le_of_ble_eq_true rfl⟩ ⟨Nat.le_of_ble_eq_true rfl, Nat.le_of_ble_eq_true rfl⟩ dX6_back_27) hS (fun r52 ρ53 H locs q54 hP hS => ?_)
      have hI := q54
      exact ret_i B hr hlk hP hS dX6_back_30 (hI)
  · skip
    refine lv_if_ne (tgt := 15) hx hb dX6_back_6 (by decide) (fun c56 => absurd rfl c56) (fun _ => ?_)
    refine lv_aload_n hx hb dX6_back_9 rfl (lv_at hl 0 rfl) ?_
    refine lv_iconst (v := (-1)) hx hb dX6_back_10 (by decide) ?_
    refine call_i (cVt (k := 0) (av := [.int (-1)]) (rest := []) B hP hS (d_X6_refuse l E ρ r (-1) hI) lk_RX6_58 (hrecv (ci := 6) B hP (hk_lt (c := 6) (show hk 0 = 6 by decide +kernel) (by decide)) (hcc6 _ _ (show hk 0 = 6 by decide +kernel)) rfl) rfl rfl hl.1 (Nat.le_of_ble_eq_true rfl) ⟨Nat.le_of_ble_eq_true rfl, Nat.le_of_ble_eq_true rfl⟩ ⟨Nat.le_of_ble_eq_true rfl, Nat.le_of_ble_eq_true rfl⟩ dX6_back_11) hS (fun r57 ρ58 H locs q59 hP hS => ?_)
    have hI := q59
    exact ret_i B hr hlk hP hS dX6_back_14 (hI)

set_option maxHeartbeats 4000000 in
set_option maxRecDepth 100000 in
theorem d_X6_kernel (l : Launch) (E : hE) (ρ r : Nat → Nat → Int32) (a1 : Int32) (a2 : Int32) (hI : CI r S0 ρ) : Met l yX6_kernel (.code yX6_kernel cX6_kernel 3 (some .int) :: gw_all) (rmk 1 40) (cPre E ρ [.ref (E.2.1 + 0), .int a1, .int a2]) (cI E (fun v ρ1 => ρ = ρ1 ∧ CI r S0 ρ1 ∧ (((iR a1 0 268435455 ∧ iR a2 0 999999) ∧ v = HOP a1 a2) ∨ (¬ (iR a1 0 268435455 ∧ iR a2 0 999999) ∧ v = -1)))) 0 0 (hA E) := by
  refine ent (own := RX6) (by decide) rfl (Nat.le_of_ble_eq_true rfl) ?_
  intro p e s m below meth c ls B hr hlk hl hP hS
  have hx := B.1.1
  have hb := B.1.2.1
  have hown := B.1.2.2.2.1
  have hts := B.1.2.2.2.2
  have hl : lv_has ls 3 [(0, .ref (E.2.1 + 0)), (1, .int a1), (2, .int a2)] := hl
  refine lv_iload_n hx hb dX6_kernel_0 rfl (lv_at hl 1 rfl) ?_
  refine lv_iconst (v := 0) hx hb dX6_kernel_1 (by decide) ?_
  refine lv_ldc (v := 268435455) hx hb hown (hts _ mw_454) dX6_kernel_2 ?_
  refine call_i (cS (av := [.int a1, .int 0, .int 268435455]) (rest := []) B hP hS (c_isWithin l E ρ a1 0 268435455 0 268435455 (by decide) (by decide)) lk_RX6_54 rfl rfl hl.1 (Nat.le_of_ble_eq_true rfl) ⟨Nat.le_of_ble_eq_true rfl, Nat.le_of_ble_eq_true rfl⟩ ⟨Nat.le_of_ble_eq_true rfl, Nat.le_of_ble_eq_true rfl⟩ dX6_kernel_4) hS (fun r14 ρ15 H locs q16 hP hS => ?_)
  obtain ⟨rfl, q16⟩ := q16
  rcases q16 with ⟨rfl, q16⟩ | ⟨rfl, q16⟩
  · skip
    refine lv_if_eq (tgt := 20) hx hb dX6_kernel_7 (by decide) (fun c17 => absurd c17 (iR_ne (show iR 1 (1) (1) from ⟨by decide, by decide⟩) (show iR 0 (0) (0) from ⟨by decide, by decide⟩) (by decide))) (fun _ => ?_)
    refine lv_iload_n hx hb dX6_kernel_10 rfl (lv_at hl 2 rfl) ?_
    refine lv_iconst (v := 0) hx hb dX6_kernel_11 (by decide) ?_
    refine lv_ldc (v := 999999) hx hb hown (hts _ mw_849) dX6_kernel_12 ?_
    refine call_i (cS (av := [.int a2, .int 0, .int 999999]) (rest := []) B hP hS (c_isWithin l E ρ a2 0 999999 0 999999 (by decide) (by decide)) lk_RX6_54 rfl rfl hl.1 (Nat.le_of_ble_eq_true rfl) ⟨Nat.le_of_ble_eq_true rfl, Nat.le_of_ble_eq_true rfl⟩ ⟨Nat.le_of_ble_eq_true rfl, Nat.le_of_ble_eq_true rfl⟩ dX6_kernel_14) hS (fun r18 ρ19 H locs q20 hP hS => ?_)
    obtain ⟨rfl, q20⟩ := q20
    rcases q20 with ⟨rfl, q20⟩ | ⟨rfl, q20⟩
    · skip
      refine lv_if_ne (tgt := 22) hx hb dX6_kernel_17 (by decide) (fun _ => ?_) (fun c21 => absurd c21 (iR_ne (show iR 1 (1) (1) from ⟨by decide, by decide⟩) (show iR 0 (0) (0) from ⟨by decide, by decide⟩) (by decide)))
      refine lv_iload_n hx hb dX6_kernel_22 rfl (lv_at hl 1 rfl) ?_
      refine lv_iload_n hx hb dX6_kernel_23 rfl (lv_at hl 2 rfl) ?_
      refine call_i (cS (av := [.int a1, .int a2]) (rest := []) B hP hS (c_hopOf l E ρ a1 a2) lk_RX6_224 rfl rfl hl.1 (Nat.le_of_ble_eq_true rfl) ⟨Nat.le_of_ble_eq_true rfl, Nat.le_of_ble_eq_true rfl⟩ ⟨Nat.le_of_ble_eq_true rfl, Nat.le_of_ble_eq_true rfl⟩ dX6_kernel_24) hS (fun r22 ρ23 H locs q24 hP hS => ?_)
      obtain ⟨rfl, rfl⟩ := q24
      exact ret_i B hr hlk hP hS dX6_kernel_27 (⟨rfl, hI, (Or.inl ⟨⟨q16, q20⟩, rfl⟩)⟩)
    · skip
      refine lv_if_ne (tgt := 22) hx hb dX6_kernel_17 (by decide) (fun c25 => absurd rfl c25) (fun _ => ?_)
      refine lv_iconst (v := (-1)) hx hb dX6_kernel_20 (by decide) ?_
      exact ret_i B hr hlk hP hS dX6_kernel_21 (⟨rfl, hI, (Or.inr ⟨fun z => q20 z.2, rfl⟩)⟩)
  · skip
    refine lv_if_eq (tgt := 20) hx hb dX6_kernel_7 (by decide) (fun _ => ?_) (fun c26 => absurd rfl c26)
    refine lv_iconst (v := (-1)) hx hb dX6_kernel_20 (by decide) ?_
    exact ret_i B hr hlk hP hS dX6_kernel_21 (⟨rfl, hI, (Or.inr ⟨fun z => q16 z.1, rfl⟩)⟩)
