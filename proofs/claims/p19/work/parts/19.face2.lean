theorem dX6_hop_0 : decode cX6_hop 0 = .ok (.aload_n 0, 1) := by decide +kernel
theorem dX6_hop_1 : decode cX6_hop 1 = .ok (.iload_n 1, 1) := by decide +kernel
theorem dX6_hop_2 : decode cX6_hop 2 = .ok (.iload_n 2, 1) := by decide +kernel
theorem dX6_hop_3 : decode cX6_hop 3 = .ok (.invokevirtual 228, 3) := by decide +kernel
theorem dX6_hop_6 : decode cX6_hop 6 = .ok (.astore 4, 2) := by decide +kernel
theorem dX6_hop_8 : decode cX6_hop 8 = .ok (.aload 4, 2) := by decide +kernel
theorem dX6_hop_10 : decode cX6_hop 10 = .ok (.ifnull 13, 3) := by decide +kernel
theorem dX6_hop_13 : decode cX6_hop 13 = .ok (.iload_n 3, 1) := by decide +kernel
theorem dX6_hop_14 : decode cX6_hop 14 = .ok (.iconst 0, 1) := by decide +kernel
theorem dX6_hop_15 : decode cX6_hop 15 = .ok (.ldc 232, 2) := by decide +kernel
theorem dX6_hop_17 : decode cX6_hop 17 = .ok (.invokestatic 54, 3) := by decide +kernel
theorem dX6_hop_20 : decode cX6_hop 20 = .ok (.ifCond .ne 5, 3) := by decide +kernel
theorem dX6_hop_23 : decode cX6_hop 23 = .ok (.iconst (-1), 1) := by decide +kernel
theorem dX6_hop_24 : decode cX6_hop 24 = .ok (.ireturn, 1) := by decide +kernel
theorem dX6_hop_25 : decode cX6_hop 25 = .ok (.aload_n 0, 1) := by decide +kernel
theorem dX6_hop_26 : decode cX6_hop 26 = .ok (.getfield 12, 3) := by decide +kernel
theorem dX6_hop_29 : decode cX6_hop 29 = .ok (.iload_n 1, 1) := by decide +kernel
theorem dX6_hop_30 : decode cX6_hop 30 = .ok (.aload 4, 2) := by decide +kernel
theorem dX6_hop_32 : decode cX6_hop 32 = .ok (.getfield 206, 3) := by decide +kernel
theorem dX6_hop_35 : decode cX6_hop 35 = .ok (.iload_n 3, 1) := by decide +kernel
theorem dX6_hop_36 : decode cX6_hop 36 = .ok (.invokevirtual 233, 3) := by decide +kernel
theorem dX6_hop_39 : decode cX6_hop 39 = .ok (.ireturn, 1) := by decide +kernel
theorem dX6_alike_0 : decode cX6_alike 0 = .ok (.aload_n 0, 1) := by decide +kernel
theorem dX6_alike_1 : decode cX6_alike 1 = .ok (.getfield 12, 3) := by decide +kernel
theorem dX6_alike_4 : decode cX6_alike 4 = .ok (.iload_n 1, 1) := by decide +kernel
theorem dX6_alike_5 : decode cX6_alike 5 = .ok (.iload_n 2, 1) := by decide +kernel
theorem dX6_alike_6 : decode cX6_alike 6 = .ok (.invokevirtual 132, 3) := by decide +kernel
theorem dX6_alike_9 : decode cX6_alike 9 = .ok (.astore 4, 2) := by decide +kernel
theorem dX6_alike_11 : decode cX6_alike 11 = .ok (.aload 4, 2) := by decide +kernel
theorem dX6_alike_13 : decode cX6_alike 13 = .ok (.ifnonnull 5, 3) := by decide +kernel
theorem dX6_alike_16 : decode cX6_alike 16 = .ok (.iconst (-1), 1) := by decide +kernel
theorem dX6_alike_17 : decode cX6_alike 17 = .ok (.ireturn, 1) := by decide +kernel
theorem dX6_alike_18 : decode cX6_alike 18 = .ok (.aload_n 0, 1) := by decide +kernel
theorem dX6_alike_19 : decode cX6_alike 19 = .ok (.getfield 12, 3) := by decide +kernel
theorem dX6_alike_22 : decode cX6_alike 22 = .ok (.getfield 80, 3) := by decide +kernel
theorem dX6_alike_25 : decode cX6_alike 25 = .ok (.iload_n 1, 1) := by decide +kernel
theorem dX6_alike_26 : decode cX6_alike 26 = .ok (.aaload, 1) := by decide +kernel
theorem dX6_alike_27 : decode cX6_alike 27 = .ok (.getfield 190, 3) := by decide +kernel
theorem dX6_alike_30 : decode cX6_alike 30 = .ok (.astore 5, 2) := by decide +kernel
theorem dX6_alike_32 : decode cX6_alike 32 = .ok (.iload_n 3, 1) := by decide +kernel
theorem dX6_alike_33 : decode cX6_alike 33 = .ok (.tableswitch 75 0 2 #[27, 41, 66], 27) := by decide +kernel
theorem dX6_alike_60 : decode cX6_alike 60 = .ok (.aload 4, 2) := by decide +kernel
theorem dX6_alike_62 : decode cX6_alike 62 = .ok (.getfield 237, 3) := by decide +kernel
theorem dX6_alike_65 : decode cX6_alike 65 = .ok (.aload 5, 2) := by decide +kernel
theorem dX6_alike_67 : decode cX6_alike 67 = .ok (.invokevirtual 238, 3) := by decide +kernel
theorem dX6_alike_70 : decode cX6_alike 70 = .ok (.invokestatic 242, 3) := by decide +kernel
theorem dX6_alike_73 : decode cX6_alike 73 = .ok (.ireturn, 1) := by decide +kernel
theorem dX6_alike_74 : decode cX6_alike 74 = .ok (.aload 4, 2) := by decide +kernel
theorem dX6_alike_76 : decode cX6_alike 76 = .ok (.getfield 237, 3) := by decide +kernel
theorem dX6_alike_79 : decode cX6_alike 79 = .ok (.getfield 206, 3) := by decide +kernel
theorem dX6_alike_82 : decode cX6_alike 82 = .ok (.aload 5, 2) := by decide +kernel
theorem dX6_alike_84 : decode cX6_alike 84 = .ok (.getfield 206, 3) := by decide +kernel
theorem dX6_alike_87 : decode cX6_alike 87 = .ok (.if_icmp .ne 7, 3) := by decide +kernel
theorem dX6_alike_90 : decode cX6_alike 90 = .ok (.iconst 1, 1) := by decide +kernel
theorem dX6_alike_91 : decode cX6_alike 91 = .ok (.goto 4, 3) := by decide +kernel
theorem dX6_alike_94 : decode cX6_alike 94 = .ok (.iconst 0, 1) := by decide +kernel
theorem dX6_alike_95 : decode cX6_alike 95 = .ok (.invokestatic 242, 3) := by decide +kernel
theorem dX6_alike_98 : decode cX6_alike 98 = .ok (.ireturn, 1) := by decide +kernel
theorem dX6_alike_99 : decode cX6_alike 99 = .ok (.aload 4, 2) := by decide +kernel
theorem dX6_alike_101 : decode cX6_alike 101 = .ok (.getfield 246, 3) := by decide +kernel
theorem dX6_alike_104 : decode cX6_alike 104 = .ok (.invokestatic 242, 3) := by decide +kernel
theorem dX6_alike_107 : decode cX6_alike 107 = .ok (.ireturn, 1) := by decide +kernel
theorem dX6_alike_108 : decode cX6_alike 108 = .ok (.iconst (-1), 1) := by decide +kernel
theorem dX6_alike_109 : decode cX6_alike 109 = .ok (.ireturn, 1) := by decide +kernel
theorem dX6_mapOf_0 : decode cX6_mapOf 0 = .ok (.aload_n 0, 1) := by decide +kernel
theorem dX6_mapOf_1 : decode cX6_mapOf 1 = .ok (.iload_n 1, 1) := by decide +kernel
theorem dX6_mapOf_2 : decode cX6_mapOf 2 = .ok (.iload_n 2, 1) := by decide +kernel
theorem dX6_mapOf_3 : decode cX6_mapOf 3 = .ok (.invokevirtual 228, 3) := by decide +kernel
theorem dX6_mapOf_6 : decode cX6_mapOf 6 = .ok (.astore 4, 2) := by decide +kernel
theorem dX6_mapOf_8 : decode cX6_mapOf 8 = .ok (.aload 4, 2) := by decide +kernel
theorem dX6_mapOf_10 : decode cX6_mapOf 10 = .ok (.ifnonnull 5, 3) := by decide +kernel
theorem dX6_mapOf_13 : decode cX6_mapOf 13 = .ok (.iconst (-1), 1) := by decide +kernel
theorem dX6_mapOf_14 : decode cX6_mapOf 14 = .ok (.ireturn, 1) := by decide +kernel
theorem dX6_mapOf_15 : decode cX6_mapOf 15 = .ok (.iload_n 3, 1) := by decide +kernel
theorem dX6_mapOf_16 : decode cX6_mapOf 16 = .ok (.tableswitch 72 0 3 #[32, 38, 44, 50], 32) := by decide +kernel
theorem dX6_mapOf_48 : decode cX6_mapOf 48 = .ok (.aload 4, 2) := by decide +kernel
theorem dX6_mapOf_50 : decode cX6_mapOf 50 = .ok (.getfield 206, 3) := by decide +kernel
theorem dX6_mapOf_53 : decode cX6_mapOf 53 = .ok (.ireturn, 1) := by decide +kernel
theorem dX6_mapOf_54 : decode cX6_mapOf 54 = .ok (.aload 4, 2) := by decide +kernel
theorem dX6_mapOf_56 : decode cX6_mapOf 56 = .ok (.getfield 250, 3) := by decide +kernel
theorem dX6_mapOf_59 : decode cX6_mapOf 59 = .ok (.ireturn, 1) := by decide +kernel
theorem dX6_mapOf_60 : decode cX6_mapOf 60 = .ok (.aload 4, 2) := by decide +kernel
theorem dX6_mapOf_62 : decode cX6_mapOf 62 = .ok (.getfield 253, 3) := by decide +kernel
theorem dX6_mapOf_65 : decode cX6_mapOf 65 = .ok (.ireturn, 1) := by decide +kernel
theorem dX6_mapOf_66 : decode cX6_mapOf 66 = .ok (.iload_n 2, 1) := by decide +kernel
theorem dX6_mapOf_67 : decode cX6_mapOf 67 = .ok (.iconst (-1), 1) := by decide +kernel
theorem dX6_mapOf_68 : decode cX6_mapOf 68 = .ok (.if_icmp .ne 18, 3) := by decide +kernel
theorem dX6_mapOf_71 : decode cX6_mapOf 71 = .ok (.aload_n 0, 1) := by decide +kernel
theorem dX6_mapOf_72 : decode cX6_mapOf 72 = .ok (.getfield 12, 3) := by decide +kernel
theorem dX6_mapOf_75 : decode cX6_mapOf 75 = .ok (.getfield 80, 3) := by decide +kernel
theorem dX6_mapOf_78 : decode cX6_mapOf 78 = .ok (.iload_n 1, 1) := by decide +kernel
theorem dX6_mapOf_79 : decode cX6_mapOf 79 = .ok (.aaload, 1) := by decide +kernel
theorem dX6_mapOf_80 : decode cX6_mapOf 80 = .ok (.getfield 256, 3) := by decide +kernel
theorem dX6_mapOf_83 : decode cX6_mapOf 83 = .ok (.goto 4, 3) := by decide +kernel
theorem dX6_mapOf_86 : decode cX6_mapOf 86 = .ok (.iconst (-1), 1) := by decide +kernel
theorem dX6_mapOf_87 : decode cX6_mapOf 87 = .ok (.ireturn, 1) := by decide +kernel
theorem dX6_mapOf_88 : decode cX6_mapOf 88 = .ok (.iconst (-1), 1) := by decide +kernel
theorem dX6_mapOf_89 : decode cX6_mapOf 89 = .ok (.ireturn, 1) := by decide +kernel
theorem dX6_meets_0 : decode cX6_meets 0 = .ok (.aload_n 0, 1) := by decide +kernel
theorem dX6_meets_1 : decode cX6_meets 1 = .ok (.getfield 12, 3) := by decide +kernel
theorem dX6_meets_4 : decode cX6_meets 4 = .ok (.invokevirtual 259, 3) := by decide +kernel
theorem dX6_meets_7 : decode cX6_meets 7 = .ok (.ifCond .ne 5, 3) := by decide +kernel
theorem dX6_meets_10 : decode cX6_meets 10 = .ok (.iconst (-1), 1) := by decide +kernel
theorem dX6_meets_11 : decode cX6_meets 11 = .ok (.ireturn, 1) := by decide +kernel
theorem dX6_meets_12 : decode cX6_meets 12 = .ok (.iconst 0, 1) := by decide +kernel
theorem dX6_meets_13 : decode cX6_meets 13 = .ok (.istore_n 1, 1) := by decide +kernel
theorem dX6_meets_14 : decode cX6_meets 14 = .ok (.iload_n 1, 1) := by decide +kernel
theorem dX6_meets_15 : decode cX6_meets 15 = .ok (.sipush 4000, 3) := by decide +kernel
theorem dX6_meets_18 : decode cX6_meets 18 = .ok (.if_icmp .ge 38, 3) := by decide +kernel
theorem dX6_meets_21 : decode cX6_meets 21 = .ok (.aload_n 0, 1) := by decide +kernel
theorem dX6_meets_22 : decode cX6_meets 22 = .ok (.getfield 12, 3) := by decide +kernel
theorem dX6_meets_25 : decode cX6_meets 25 = .ok (.aload_n 0, 1) := by decide +kernel
theorem dX6_meets_26 : decode cX6_meets 26 = .ok (.getfield 12, 3) := by decide +kernel
theorem dX6_meets_29 : decode cX6_meets 29 = .ok (.getfield 102, 3) := by decide +kernel
theorem dX6_meets_32 : decode cX6_meets 32 = .ok (.iload_n 1, 1) := by decide +kernel
theorem dX6_meets_33 : decode cX6_meets 33 = .ok (.iadd, 1) := by decide +kernel
theorem dX6_meets_34 : decode cX6_meets 34 = .ok (.invokevirtual 262, 3) := by decide +kernel
theorem dX6_meets_37 : decode cX6_meets 37 = .ok (.ifCond .eq 13, 3) := by decide +kernel
theorem dX6_meets_40 : decode cX6_meets 40 = .ok (.aload_n 0, 1) := by decide +kernel
theorem dX6_meets_41 : decode cX6_meets 41 = .ok (.getfield 12, 3) := by decide +kernel
theorem dX6_meets_44 : decode cX6_meets 44 = .ok (.getfield 102, 3) := by decide +kernel
theorem dX6_meets_47 : decode cX6_meets 47 = .ok (.iload_n 1, 1) := by decide +kernel
theorem dX6_meets_48 : decode cX6_meets 48 = .ok (.iadd, 1) := by decide +kernel
theorem dX6_meets_49 : decode cX6_meets 49 = .ok (.ireturn, 1) := by decide +kernel
theorem dX6_meets_50 : decode cX6_meets 50 = .ok (.iinc 1 1, 3) := by decide +kernel
theorem dX6_meets_53 : decode cX6_meets 53 = .ok (.goto (-39), 3) := by decide +kernel
theorem dX6_meets_56 : decode cX6_meets 56 = .ok (.iconst (-1), 1) := by decide +kernel
theorem dX6_meets_57 : decode cX6_meets 57 = .ok (.ireturn, 1) := by decide +kernel
theorem dX6_used_0 : decode cX6_used 0 = .ok (.aload_n 0, 1) := by decide +kernel
theorem dX6_used_1 : decode cX6_used 1 = .ok (.getfield 12, 3) := by decide +kernel
theorem dX6_used_4 : decode cX6_used 4 = .ok (.iload_n 1, 1) := by decide +kernel
theorem dX6_used_5 : decode cX6_used 5 = .ok (.invokevirtual 95, 3) := by decide +kernel
theorem dX6_used_8 : decode cX6_used 8 = .ok (.astore 4, 2) := by decide +kernel
theorem dX6_used_10 : decode cX6_used 10 = .ok (.aload 4, 2) := by decide +kernel
theorem dX6_used_12 : decode cX6_used 12 = .ok (.ifnull 24, 3) := by decide +kernel
theorem dX6_used_15 : decode cX6_used 15 = .ok (.iload_n 2, 1) := by decide +kernel
theorem dX6_used_16 : decode cX6_used 16 = .ok (.iconst 0, 1) := by decide +kernel
theorem dX6_used_17 : decode cX6_used 17 = .ok (.bipush 22, 2) := by decide +kernel
theorem dX6_used_19 : decode cX6_used 19 = .ok (.invokestatic 54, 3) := by decide +kernel
theorem dX6_used_22 : decode cX6_used 22 = .ok (.ifCond .eq 14, 3) := by decide +kernel
theorem dX6_used_25 : decode cX6_used 25 = .ok (.iload_n 3, 1) := by decide +kernel
theorem dX6_used_26 : decode cX6_used 26 = .ok (.iconst 1, 1) := by decide +kernel
theorem dX6_used_27 : decode cX6_used 27 = .ok (.sipush 512, 3) := by decide +kernel
theorem dX6_used_30 : decode cX6_used 30 = .ok (.invokestatic 54, 3) := by decide +kernel
theorem dX6_used_33 : decode cX6_used 33 = .ok (.ifCond .ne 5, 3) := by decide +kernel
theorem dX6_used_36 : decode cX6_used 36 = .ok (.iconst (-1), 1) := by decide +kernel
theorem dX6_used_37 : decode cX6_used 37 = .ok (.ireturn, 1) := by decide +kernel
theorem dX6_used_38 : decode cX6_used 38 = .ok (.iconst 0, 1) := by decide +kernel
theorem dX6_used_39 : decode cX6_used 39 = .ok (.istore 5, 2) := by decide +kernel
theorem dX6_used_41 : decode cX6_used 41 = .ok (.iconst 0, 1) := by decide +kernel
theorem dX6_used_42 : decode cX6_used 42 = .ok (.istore 6, 2) := by decide +kernel
theorem dX6_used_44 : decode cX6_used 44 = .ok (.iload 6, 2) := by decide +kernel
theorem dX6_used_46 : decode cX6_used 46 = .ok (.iload_n 3, 1) := by decide +kernel
theorem dX6_used_47 : decode cX6_used 47 = .ok (.if_icmp .ge 42, 3) := by decide +kernel
theorem dX6_used_50 : decode cX6_used 50 = .ok (.aload_n 0, 1) := by decide +kernel
theorem dX6_used_51 : decode cX6_used 51 = .ok (.getfield 12, 3) := by decide +kernel
theorem dX6_used_54 : decode cX6_used 54 = .ok (.iload_n 1, 1) := by decide +kernel
theorem dX6_used_55 : decode cX6_used 55 = .ok (.aload 4, 2) := by decide +kernel
theorem dX6_used_57 : decode cX6_used 57 = .ok (.getfield 190, 3) := by decide +kernel
theorem dX6_used_60 : decode cX6_used 60 = .ok (.getfield 206, 3) := by decide +kernel
theorem dX6_used_63 : decode cX6_used 63 = .ok (.aload_n 0, 1) := by decide +kernel
theorem dX6_used_64 : decode cX6_used 64 = .ok (.getfield 12, 3) := by decide +kernel
theorem dX6_used_67 : decode cX6_used 67 = .ok (.getfield 102, 3) := by decide +kernel
theorem dX6_used_70 : decode cX6_used 70 = .ok (.iload 6, 2) := by decide +kernel
theorem dX6_used_72 : decode cX6_used 72 = .ok (.iadd, 1) := by decide +kernel
theorem dX6_used_73 : decode cX6_used 73 = .ok (.invokevirtual 233, 3) := by decide +kernel
theorem dX6_used_76 : decode cX6_used 76 = .ok (.iload_n 2, 1) := by decide +kernel
theorem dX6_used_77 : decode cX6_used 77 = .ok (.if_icmp .ne 6, 3) := by decide +kernel
theorem dX6_used_80 : decode cX6_used 80 = .ok (.iinc 5 1, 3) := by decide +kernel
theorem dX6_used_83 : decode cX6_used 83 = .ok (.iinc 6 1, 3) := by decide +kernel
theorem dX6_used_86 : decode cX6_used 86 = .ok (.goto (-42), 3) := by decide +kernel
theorem dX6_used_89 : decode cX6_used 89 = .ok (.iload 5, 2) := by decide +kernel
theorem dX6_used_91 : decode cX6_used 91 = .ok (.ireturn, 1) := by decide +kernel
theorem dX6_bad_0 : decode cX6_bad 0 = .ok (.aload_n 0, 1) := by decide +kernel
theorem dX6_bad_1 : decode cX6_bad 1 = .ok (.getfield 12, 3) := by decide +kernel
theorem dX6_bad_4 : decode cX6_bad 4 = .ok (.iload_n 1, 1) := by decide +kernel
theorem dX6_bad_5 : decode cX6_bad 5 = .ok (.invokevirtual 95, 3) := by decide +kernel
theorem dX6_bad_8 : decode cX6_bad 8 = .ok (.astore_n 3, 1) := by decide +kernel
theorem dX6_bad_9 : decode cX6_bad 9 = .ok (.aload_n 3, 1) := by decide +kernel
theorem dX6_bad_10 : decode cX6_bad 10 = .ok (.ifnull 13, 3) := by decide +kernel
theorem dX6_bad_13 : decode cX6_bad 13 = .ok (.iload_n 2, 1) := by decide +kernel
theorem dX6_bad_14 : decode cX6_bad 14 = .ok (.iconst 1, 1) := by decide +kernel
theorem dX6_bad_15 : decode cX6_bad 15 = .ok (.bipush 99, 2) := by decide +kernel
theorem dX6_bad_17 : decode cX6_bad 17 = .ok (.invokestatic 54, 3) := by decide +kernel
theorem dX6_bad_20 : decode cX6_bad 20 = .ok (.ifCond .ne 7, 3) := by decide +kernel
theorem dX6_bad_23 : decode cX6_bad 23 = .ok (.iconst (-1), 1) := by decide +kernel
theorem dX6_bad_24 : decode cX6_bad 24 = .ok (.goto 8, 3) := by decide +kernel
theorem dX6_bad_27 : decode cX6_bad 27 = .ok (.aload_n 3, 1) := by decide +kernel
theorem dX6_bad_28 : decode cX6_bad 28 = .ok (.iload_n 2, 1) := by decide +kernel
theorem dX6_bad_29 : decode cX6_bad 29 = .ok (.invokevirtual 203, 3) := by decide +kernel
theorem dX6_bad_32 : decode cX6_bad 32 = .ok (.ireturn, 1) := by decide +kernel
theorem dX6_sent_0 : decode cX6_sent 0 = .ok (.aload_n 0, 1) := by decide +kernel
theorem dX6_sent_1 : decode cX6_sent 1 = .ok (.getfield 12, 3) := by decide +kernel
theorem dX6_sent_4 : decode cX6_sent 4 = .ok (.iload_n 1, 1) := by decide +kernel
theorem dX6_sent_5 : decode cX6_sent 5 = .ok (.invokevirtual 95, 3) := by decide +kernel
theorem dX6_sent_8 : decode cX6_sent 8 = .ok (.astore 4, 2) := by decide +kernel
theorem dX6_sent_10 : decode cX6_sent 10 = .ok (.aload 4, 2) := by decide +kernel
theorem dX6_sent_12 : decode cX6_sent 12 = .ok (.ifnull 13, 3) := by decide +kernel
theorem dX6_sent_15 : decode cX6_sent 15 = .ok (.iload_n 2, 1) := by decide +kernel
theorem dX6_sent_16 : decode cX6_sent 16 = .ok (.iconst 0, 1) := by decide +kernel
theorem dX6_sent_17 : decode cX6_sent 17 = .ok (.bipush 22, 2) := by decide +kernel
theorem dX6_sent_19 : decode cX6_sent 19 = .ok (.invokestatic 54, 3) := by decide +kernel
theorem dX6_sent_22 : decode cX6_sent 22 = .ok (.ifCond .ne 5, 3) := by decide +kernel
theorem dX6_sent_25 : decode cX6_sent 25 = .ok (.iconst (-1), 1) := by decide +kernel
theorem dX6_sent_26 : decode cX6_sent 26 = .ok (.ireturn, 1) := by decide +kernel
theorem dX6_sent_27 : decode cX6_sent 27 = .ok (.iload_n 3, 1) := by decide +kernel
theorem dX6_sent_28 : decode cX6_sent 28 = .ok (.lookupswitch 44 #[(0, 28), (1, 36)], 28) := by decide +kernel
theorem dX6_sent_56 : decode cX6_sent 56 = .ok (.aload 4, 2) := by decide +kernel
theorem dX6_sent_58 : decode cX6_sent 58 = .ok (.getfield 265, 3) := by decide +kernel
theorem dX6_sent_61 : decode cX6_sent 61 = .ok (.iload_n 2, 1) := by decide +kernel
theorem dX6_sent_62 : decode cX6_sent 62 = .ok (.iaload, 1) := by decide +kernel
theorem dX6_sent_63 : decode cX6_sent 63 = .ok (.ireturn, 1) := by decide +kernel
theorem dX6_sent_64 : decode cX6_sent 64 = .ok (.aload 4, 2) := by decide +kernel
theorem dX6_sent_66 : decode cX6_sent 66 = .ok (.getfield 268, 3) := by decide +kernel
theorem dX6_sent_69 : decode cX6_sent 69 = .ok (.iload_n 2, 1) := by decide +kernel
theorem dX6_sent_70 : decode cX6_sent 70 = .ok (.iaload, 1) := by decide +kernel
theorem dX6_sent_71 : decode cX6_sent 71 = .ok (.ireturn, 1) := by decide +kernel
theorem dX6_sent_72 : decode cX6_sent 72 = .ok (.iconst (-1), 1) := by decide +kernel
theorem dX6_sent_73 : decode cX6_sent 73 = .ok (.ireturn, 1) := by decide +kernel
theorem dX6_link_0 : decode cX6_link 0 = .ok (.aload_n 0, 1) := by decide +kernel
theorem dX6_link_1 : decode cX6_link 1 = .ok (.getfield 12, 3) := by decide +kernel
theorem dX6_link_4 : decode cX6_link 4 = .ok (.iload_n 1, 1) := by decide +kernel
theorem dX6_link_5 : decode cX6_link 5 = .ok (.iload_n 2, 1) := by decide +kernel
theorem dX6_link_6 : decode cX6_link 6 = .ok (.invokevirtual 132, 3) := by decide +kernel
theorem dX6_link_9 : decode cX6_link 9 = .ok (.astore 4, 2) := by decide +kernel
theorem dX6_link_11 : decode cX6_link 11 = .ok (.aload 4, 2) := by decide +kernel
theorem dX6_link_13 : decode cX6_link 13 = .ok (.ifnonnull 5, 3) := by decide +kernel
theorem dX6_link_16 : decode cX6_link 16 = .ok (.iconst (-1), 1) := by decide +kernel
theorem dX6_link_17 : decode cX6_link 17 = .ok (.ireturn, 1) := by decide +kernel
theorem dX6_link_18 : decode cX6_link 18 = .ok (.iload_n 3, 1) := by decide +kernel
theorem dX6_link_19 : decode cX6_link 19 = .ok (.tableswitch 213 0 16 #[81, 87, 96, 105, 114, 123, 129, 138, 147, 156, 165, 171, 177, 183, 189, 198, 207], 81) := by decide +kernel
theorem dX6_link_100 : decode cX6_link 100 = .ok (.aload 4, 2) := by decide +kernel
theorem dX6_link_102 : decode cX6_link 102 = .ok (.getfield 271, 3) := by decide +kernel
theorem dX6_link_105 : decode cX6_link 105 = .ok (.ireturn, 1) := by decide +kernel
theorem dX6_link_106 : decode cX6_link 106 = .ok (.aload 4, 2) := by decide +kernel
theorem dX6_link_108 : decode cX6_link 108 = .ok (.getfield 135, 3) := by decide +kernel
theorem dX6_link_111 : decode cX6_link 111 = .ok (.getfield 153, 3) := by decide +kernel
theorem dX6_link_114 : decode cX6_link 114 = .ok (.ireturn, 1) := by decide +kernel
theorem dX6_link_115 : decode cX6_link 115 = .ok (.aload 4, 2) := by decide +kernel
theorem dX6_link_117 : decode cX6_link 117 = .ok (.getfield 141, 3) := by decide +kernel
theorem dX6_link_120 : decode cX6_link 120 = .ok (.getfield 153, 3) := by decide +kernel
theorem dX6_link_123 : decode cX6_link 123 = .ok (.ireturn, 1) := by decide +kernel
theorem dX6_link_124 : decode cX6_link 124 = .ok (.aload 4, 2) := by decide +kernel
theorem dX6_link_126 : decode cX6_link 126 = .ok (.getfield 135, 3) := by decide +kernel
theorem dX6_link_129 : decode cX6_link 129 = .ok (.getfield 274, 3) := by decide +kernel
theorem dX6_link_132 : decode cX6_link 132 = .ok (.ireturn, 1) := by decide +kernel
theorem dX6_link_133 : decode cX6_link 133 = .ok (.aload 4, 2) := by decide +kernel
theorem dX6_link_135 : decode cX6_link 135 = .ok (.getfield 141, 3) := by decide +kernel
theorem dX6_link_138 : decode cX6_link 138 = .ok (.getfield 274, 3) := by decide +kernel
theorem dX6_link_141 : decode cX6_link 141 = .ok (.ireturn, 1) := by decide +kernel
theorem dX6_link_142 : decode cX6_link 142 = .ok (.aload 4, 2) := by decide +kernel
theorem dX6_link_144 : decode cX6_link 144 = .ok (.getfield 277, 3) := by decide +kernel
theorem dX6_link_147 : decode cX6_link 147 = .ok (.ireturn, 1) := by decide +kernel
theorem dX6_link_148 : decode cX6_link 148 = .ok (.aload 4, 2) := by decide +kernel
theorem dX6_link_150 : decode cX6_link 150 = .ok (.getfield 135, 3) := by decide +kernel
theorem dX6_link_153 : decode cX6_link 153 = .ok (.getfield 280, 3) := by decide +kernel
theorem dX6_link_156 : decode cX6_link 156 = .ok (.ireturn, 1) := by decide +kernel
theorem dX6_link_157 : decode cX6_link 157 = .ok (.aload 4, 2) := by decide +kernel
theorem dX6_link_159 : decode cX6_link 159 = .ok (.getfield 135, 3) := by decide +kernel
theorem dX6_link_162 : decode cX6_link 162 = .ok (.getfield 283, 3) := by decide +kernel
theorem dX6_link_165 : decode cX6_link 165 = .ok (.ireturn, 1) := by decide +kernel
theorem dX6_link_166 : decode cX6_link 166 = .ok (.aload 4, 2) := by decide +kernel
theorem dX6_link_168 : decode cX6_link 168 = .ok (.getfield 141, 3) := by decide +kernel
theorem dX6_link_171 : decode cX6_link 171 = .ok (.getfield 280, 3) := by decide +kernel
theorem dX6_link_174 : decode cX6_link 174 = .ok (.ireturn, 1) := by decide +kernel
theorem dX6_link_175 : decode cX6_link 175 = .ok (.aload 4, 2) := by decide +kernel
theorem dX6_link_177 : decode cX6_link 177 = .ok (.getfield 141, 3) := by decide +kernel
theorem dX6_link_180 : decode cX6_link 180 = .ok (.getfield 283, 3) := by decide +kernel
theorem dX6_link_183 : decode cX6_link 183 = .ok (.ireturn, 1) := by decide +kernel
theorem dX6_link_184 : decode cX6_link 184 = .ok (.aload 4, 2) := by decide +kernel
theorem dX6_link_186 : decode cX6_link 186 = .ok (.getfield 286, 3) := by decide +kernel
theorem dX6_link_189 : decode cX6_link 189 = .ok (.ireturn, 1) := by decide +kernel
theorem dX6_link_190 : decode cX6_link 190 = .ok (.aload 4, 2) := by decide +kernel
theorem dX6_link_192 : decode cX6_link 192 = .ok (.getfield 289, 3) := by decide +kernel
theorem dX6_link_195 : decode cX6_link 195 = .ok (.ireturn, 1) := by decide +kernel
theorem dX6_link_196 : decode cX6_link 196 = .ok (.aload 4, 2) := by decide +kernel
theorem dX6_link_198 : decode cX6_link 198 = .ok (.getfield 292, 3) := by decide +kernel
theorem dX6_link_201 : decode cX6_link 201 = .ok (.ireturn, 1) := by decide +kernel
theorem dX6_link_202 : decode cX6_link 202 = .ok (.aload 4, 2) := by decide +kernel
theorem dX6_link_204 : decode cX6_link 204 = .ok (.getfield 295, 3) := by decide +kernel
theorem dX6_link_207 : decode cX6_link 207 = .ok (.ireturn, 1) := by decide +kernel
theorem dX6_link_208 : decode cX6_link 208 = .ok (.aload 4, 2) := by decide +kernel
theorem dX6_link_210 : decode cX6_link 210 = .ok (.getfield 135, 3) := by decide +kernel
theorem dX6_link_213 : decode cX6_link 213 = .ok (.getfield 298, 3) := by decide +kernel
theorem dX6_link_216 : decode cX6_link 216 = .ok (.ireturn, 1) := by decide +kernel
theorem dX6_link_217 : decode cX6_link 217 = .ok (.aload 4, 2) := by decide +kernel
theorem dX6_link_219 : decode cX6_link 219 = .ok (.getfield 141, 3) := by decide +kernel
theorem dX6_link_222 : decode cX6_link 222 = .ok (.getfield 298, 3) := by decide +kernel
theorem dX6_link_225 : decode cX6_link 225 = .ok (.ireturn, 1) := by decide +kernel
theorem dX6_link_226 : decode cX6_link 226 = .ok (.aload 4, 2) := by decide +kernel
theorem dX6_link_228 : decode cX6_link 228 = .ok (.getfield 178, 3) := by decide +kernel
theorem dX6_link_231 : decode cX6_link 231 = .ok (.ireturn, 1) := by decide +kernel
theorem dX6_link_232 : decode cX6_link 232 = .ok (.iconst (-1), 1) := by decide +kernel
theorem dX6_link_233 : decode cX6_link 233 = .ok (.ireturn, 1) := by decide +kernel
theorem dX6_hash_0 : decode cX6_hash 0 = .ok (.aload_n 0, 1) := by decide +kernel
theorem dX6_hash_1 : decode cX6_hash 1 = .ok (.getfield 12, 3) := by decide +kernel
theorem dX6_hash_4 : decode cX6_hash 4 = .ok (.iload_n 1, 1) := by decide +kernel
theorem dX6_hash_5 : decode cX6_hash 5 = .ok (.iload_n 2, 1) := by decide +kernel
theorem dX6_hash_6 : decode cX6_hash 6 = .ok (.invokevirtual 132, 3) := by decide +kernel
theorem dX6_hash_9 : decode cX6_hash 9 = .ok (.astore 4, 2) := by decide +kernel
theorem dX6_hash_11 : decode cX6_hash 11 = .ok (.aload 4, 2) := by decide +kernel
theorem dX6_hash_13 : decode cX6_hash 13 = .ok (.ifnonnull 5, 3) := by decide +kernel
theorem dX6_hash_16 : decode cX6_hash 16 = .ok (.iconst 0, 1) := by decide +kernel
theorem dX6_hash_17 : decode cX6_hash 17 = .ok (.ireturn, 1) := by decide +kernel
theorem dX6_hash_18 : decode cX6_hash 18 = .ok (.iload_n 3, 1) := by decide +kernel
theorem dX6_hash_19 : decode cX6_hash 19 = .ok (.tableswitch 49 0 2 #[25, 34, 43], 25) := by decide +kernel
theorem dX6_hash_44 : decode cX6_hash 44 = .ok (.aload 4, 2) := by decide +kernel
theorem dX6_hash_46 : decode cX6_hash 46 = .ok (.getfield 135, 3) := by decide +kernel
theorem dX6_hash_49 : decode cX6_hash 49 = .ok (.getfield 301, 3) := by decide +kernel
theorem dX6_hash_52 : decode cX6_hash 52 = .ok (.ireturn, 1) := by decide +kernel
theorem dX6_hash_53 : decode cX6_hash 53 = .ok (.aload 4, 2) := by decide +kernel
theorem dX6_hash_55 : decode cX6_hash 55 = .ok (.getfield 141, 3) := by decide +kernel
theorem dX6_hash_58 : decode cX6_hash 58 = .ok (.getfield 301, 3) := by decide +kernel
theorem dX6_hash_61 : decode cX6_hash 61 = .ok (.ireturn, 1) := by decide +kernel
theorem dX6_hash_62 : decode cX6_hash 62 = .ok (.aload 4, 2) := by decide +kernel
theorem dX6_hash_64 : decode cX6_hash 64 = .ok (.getfield 304, 3) := by decide +kernel
theorem dX6_hash_67 : decode cX6_hash 67 = .ok (.ireturn, 1) := by decide +kernel
theorem dX6_hash_68 : decode cX6_hash 68 = .ok (.iconst 0, 1) := by decide +kernel
theorem dX6_hash_69 : decode cX6_hash 69 = .ok (.ireturn, 1) := by decide +kernel
theorem dX6_reserved_0 : decode cX6_reserved 0 = .ok (.aload_n 0, 1) := by decide +kernel
theorem dX6_reserved_1 : decode cX6_reserved 1 = .ok (.getfield 12, 3) := by decide +kernel
theorem dX6_reserved_4 : decode cX6_reserved 4 = .ok (.iload_n 1, 1) := by decide +kernel
theorem dX6_reserved_5 : decode cX6_reserved 5 = .ok (.iload_n 2, 1) := by decide +kernel
theorem dX6_reserved_6 : decode cX6_reserved 6 = .ok (.invokevirtual 132, 3) := by decide +kernel
theorem dX6_reserved_9 : decode cX6_reserved 9 = .ok (.astore 4, 2) := by decide +kernel
theorem dX6_reserved_11 : decode cX6_reserved 11 = .ok (.aload 4, 2) := by decide +kernel
theorem dX6_reserved_13 : decode cX6_reserved 13 = .ok (.ifnull 14, 3) := by decide +kernel
theorem dX6_reserved_16 : decode cX6_reserved 16 = .ok (.aload 4, 2) := by decide +kernel
theorem dX6_reserved_18 : decode cX6_reserved 18 = .ok (.getfield 159, 3) := by decide +kernel
theorem dX6_reserved_21 : decode cX6_reserved 21 = .ok (.getfield 163, 3) := by decide +kernel
theorem dX6_reserved_24 : decode cX6_reserved 24 = .ok (.ifCond .ne 5, 3) := by decide +kernel
theorem dX6_reserved_27 : decode cX6_reserved 27 = .ok (.iconst (-1), 1) := by decide +kernel
theorem dX6_reserved_28 : decode cX6_reserved 28 = .ok (.ireturn, 1) := by decide +kernel
theorem dX6_reserved_29 : decode cX6_reserved 29 = .ok (.iload_n 3, 1) := by decide +kernel
theorem dX6_reserved_30 : decode cX6_reserved 30 = .ok (.tableswitch 92 0 5 #[38, 47, 56, 65, 74, 83], 38) := by decide +kernel
theorem dX6_reserved_68 : decode cX6_reserved 68 = .ok (.aload 4, 2) := by decide +kernel
theorem dX6_reserved_70 : decode cX6_reserved 70 = .ok (.getfield 159, 3) := by decide +kernel
theorem dX6_reserved_73 : decode cX6_reserved 73 = .ok (.getfield 163, 3) := by decide +kernel
theorem dX6_reserved_76 : decode cX6_reserved 76 = .ok (.ireturn, 1) := by decide +kernel
theorem dX6_reserved_77 : decode cX6_reserved 77 = .ok (.aload 4, 2) := by decide +kernel
theorem dX6_reserved_79 : decode cX6_reserved 79 = .ok (.getfield 159, 3) := by decide +kernel
theorem dX6_reserved_82 : decode cX6_reserved 82 = .ok (.getfield 307, 3) := by decide +kernel
theorem dX6_reserved_85 : decode cX6_reserved 85 = .ok (.ireturn, 1) := by decide +kernel
theorem dX6_reserved_86 : decode cX6_reserved 86 = .ok (.aload 4, 2) := by decide +kernel
theorem dX6_reserved_88 : decode cX6_reserved 88 = .ok (.getfield 159, 3) := by decide +kernel
theorem dX6_reserved_91 : decode cX6_reserved 91 = .ok (.getfield 310, 3) := by decide +kernel
theorem dX6_reserved_94 : decode cX6_reserved 94 = .ok (.ireturn, 1) := by decide +kernel
theorem dX6_reserved_95 : decode cX6_reserved 95 = .ok (.aload 4, 2) := by decide +kernel
theorem dX6_reserved_97 : decode cX6_reserved 97 = .ok (.getfield 159, 3) := by decide +kernel
theorem dX6_reserved_100 : decode cX6_reserved 100 = .ok (.getfield 313, 3) := by decide +kernel
theorem dX6_reserved_103 : decode cX6_reserved 103 = .ok (.ireturn, 1) := by decide +kernel
theorem dX6_reserved_104 : decode cX6_reserved 104 = .ok (.aload 4, 2) := by decide +kernel
theorem dX6_reserved_106 : decode cX6_reserved 106 = .ok (.getfield 159, 3) := by decide +kernel
theorem dX6_reserved_109 : decode cX6_reserved 109 = .ok (.getfield 316, 3) := by decide +kernel
theorem dX6_reserved_112 : decode cX6_reserved 112 = .ok (.ireturn, 1) := by decide +kernel
theorem dX6_reserved_113 : decode cX6_reserved 113 = .ok (.aload 4, 2) := by decide +kernel
theorem dX6_reserved_115 : decode cX6_reserved 115 = .ok (.getfield 159, 3) := by decide +kernel
theorem dX6_reserved_118 : decode cX6_reserved 118 = .ok (.getfield 319, 3) := by decide +kernel
theorem dX6_reserved_121 : decode cX6_reserved 121 = .ok (.ireturn, 1) := by decide +kernel
theorem dX6_reserved_122 : decode cX6_reserved 122 = .ok (.iconst (-1), 1) := by decide +kernel
theorem dX6_reserved_123 : decode cX6_reserved 123 = .ok (.ireturn, 1) := by decide +kernel
theorem dX6_isThere_0 : decode cX6_isThere 0 = .ok (.iload_n 2, 1) := by decide +kernel
theorem dX6_isThere_1 : decode cX6_isThere 1 = .ok (.iconst 0, 1) := by decide +kernel
theorem dX6_isThere_2 : decode cX6_isThere 2 = .ok (.iconst 1, 1) := by decide +kernel
theorem dX6_isThere_3 : decode cX6_isThere 3 = .ok (.invokestatic 54, 3) := by decide +kernel
theorem dX6_isThere_6 : decode cX6_isThere 6 = .ok (.ifCond .eq 17, 3) := by decide +kernel
theorem dX6_isThere_9 : decode cX6_isThere 9 = .ok (.iload_n 3, 1) := by decide +kernel
theorem dX6_isThere_10 : decode cX6_isThere 10 = .ok (.iconst 0, 1) := by decide +kernel
theorem dX6_isThere_11 : decode cX6_isThere 11 = .ok (.ldc 232, 2) := by decide +kernel
theorem dX6_isThere_13 : decode cX6_isThere 13 = .ok (.invokestatic 54, 3) := by decide +kernel
theorem dX6_isThere_16 : decode cX6_isThere 16 = .ok (.ifCond .eq 7, 3) := by decide +kernel
theorem dX6_isThere_19 : decode cX6_isThere 19 = .ok (.iconst 1, 1) := by decide +kernel
theorem dX6_isThere_20 : decode cX6_isThere 20 = .ok (.goto 4, 3) := by decide +kernel
theorem dX6_isThere_23 : decode cX6_isThere 23 = .ok (.iconst 0, 1) := by decide +kernel
theorem dX6_isThere_24 : decode cX6_isThere 24 = .ok (.istore 4, 2) := by decide +kernel
theorem dX6_isThere_26 : decode cX6_isThere 26 = .ok (.iload 4, 2) := by decide +kernel
theorem dX6_isThere_28 : decode cX6_isThere 28 = .ok (.ifCond .eq 14, 3) := by decide +kernel
theorem dX6_isThere_31 : decode cX6_isThere 31 = .ok (.aload_n 0, 1) := by decide +kernel
theorem dX6_isThere_32 : decode cX6_isThere 32 = .ok (.getfield 12, 3) := by decide +kernel
theorem dX6_isThere_35 : decode cX6_isThere 35 = .ok (.iload_n 1, 1) := by decide +kernel
theorem dX6_isThere_36 : decode cX6_isThere 36 = .ok (.invokevirtual 76, 3) := by decide +kernel
theorem dX6_isThere_39 : decode cX6_isThere 39 = .ok (.ifCond .ne 5, 3) := by decide +kernel
theorem dX6_isThere_42 : decode cX6_isThere 42 = .ok (.iconst (-1), 1) := by decide +kernel
theorem dX6_isThere_43 : decode cX6_isThere 43 = .ok (.ireturn, 1) := by decide +kernel
theorem dX6_isThere_44 : decode cX6_isThere 44 = .ok (.aload_n 0, 1) := by decide +kernel
theorem dX6_isThere_45 : decode cX6_isThere 45 = .ok (.getfield 12, 3) := by decide +kernel
theorem dX6_isThere_48 : decode cX6_isThere 48 = .ok (.iload_n 1, 1) := by decide +kernel
theorem dX6_isThere_49 : decode cX6_isThere 49 = .ok (.iload_n 2, 1) := by decide +kernel
theorem dX6_isThere_50 : decode cX6_isThere 50 = .ok (.iload_n 3, 1) := by decide +kernel
theorem dX6_isThere_51 : decode cX6_isThere 51 = .ok (.invokevirtual 322, 3) := by decide +kernel
theorem dX6_isThere_54 : decode cX6_isThere 54 = .ok (.invokestatic 242, 3) := by decide +kernel
theorem dX6_isThere_57 : decode cX6_isThere 57 = .ok (.ireturn, 1) := by decide +kernel
theorem lk_RX6_228 : LkV RX6 228 RX6 yX6_planOf cX6_planOf 5 (some (.object "HopNet$Plan")) 2 := ⟨⟨mw_855, mw_857, mw_5, mw_52, mw_858⟩, by decide +kernel⟩
set_option maxHeartbeats 4000000 in
set_option maxRecDepth 100000 in
theorem d_X6_hop (l : Launch) (E : hE) (ρ r : Nat → Nat → Int32) (a1 : Int32) (a2 : Int32) (a3 : Int32) (hI : CI r S0 ρ) : Met l yX6_hop (.code yX6_hop cX6_hop 5 (some .int) :: gw_all) (rmk 5 200) (cPre E ρ [.ref (E.2.1 + 0), .int a1, .int a2, .int a3]) (cI E (fun v ρ1 => ρ = ρ1 ∧ CI r S0 ρ1)) 0 0 (hA E) := by
  refine ent (own := RX6) (by decide) rfl (Nat.le_of_ble_eq_true rfl) ?_
  intro p e s m below meth c ls B hr hlk hl hP hS
  have hx := B.1.1
  have hb := B.1.2.1
  have hown := B.1.2.2.2.1
  have hts := B.1.2.2.2.2
  have hl : lv_has ls 5 [(0, .ref (E.2.1 + 0)), (1, .int a1), (2, .int a2), (3, .int a3)] := hl
  refine lv_aload_n hx hb dX6_hop_0 rfl (lv_at hl 0 rfl) ?_
  refine lv_iload_n hx hb dX6_hop_1 rfl (lv_at hl 1 rfl) ?_
  refine lv_iload_n hx hb dX6_hop_2 rfl (lv_at hl 2 rfl) ?_
  refine call_q (cVt (k := 0) (av := [.int a1, .int a2]) (rest := []) B hP hS (d_X6_planOf l E ρ r a1 a2 hI) lk_RX6_228 (hrecv (ci := 6) B hP (hk_lt (c := 6) (show hk 0 = 6 by decide +kernel) (by decide)) (hcc6 _ _ (show hk 0 = 6 by decide +kernel)) rfl) rfl rfl hl.1 (Nat.le_of_ble_eq_true rfl) ⟨Nat.le_of_ble_eq_true rfl, Nat.le_of_ble_eq_true rfl⟩ ⟨Nat.le_of_ble_eq_true rfl, Nat.le_of_ble_eq_true rfl⟩ dX6_hop_3) hS (fun r18 ρ19 H locs q20 hP hS => ?_)
  obtain ⟨rfl, hI, q20⟩ := q20
  rcases q20 with rfl | ⟨j21, k22, rfl, hk22, ej21, uj21⟩
  · skip
    refine W.eq (g2 := F0 m 6 ls [.null]) rfl ?_
    refine lv_astoreN (lv' := [(4, .null), (0, .ref (E.2.1 + 0)), (1, .int a1), (2, .int a2), (3, .int a3)]) hx hb dX6_hop_6 hl (by decide) rfl (fun ls hl => ?_)
    refine lv_aloadN hx hb dX6_hop_8 (lv_at hl 0 rfl) ?_
    refine lv_ifnullN (tgt := 23) hx hb dX6_hop_10 (by decide) ?_
    refine lv_iconst (v := (-1)) hx hb dX6_hop_23 (by decide) ?_
    exact ret_i B hr hlk hP hS dX6_hop_24 (⟨rfl, hI⟩)
  · skip
    refine W.eq (g2 := F0 m 6 ls [.ref (E.2.1 + k22)]) rfl ?_
    refine lv_astore (lv' := [(4, .ref (E.2.1 + k22)), (0, .ref (E.2.1 + 0)), (1, .int a1), (2, .int a2), (3, .int a3)]) hx hb dX6_hop_6 hl (by decide) rfl (fun ls hl => ?_)
    refine lv_aload hx hb dX6_hop_8 (lv_at hl 0 rfl) ?_
    refine lv_ifnull hx hb dX6_hop_10 ?_
    refine lv_iload_n hx hb dX6_hop_13 rfl (lv_at hl 4 rfl) ?_
    refine lv_iconst (v := 0) hx hb dX6_hop_14 (by decide) ?_
    refine lv_ldc (v := 199999) hx hb hown (hts _ mw_859) dX6_hop_15 ?_
    refine call_i (cS (av := [.int a3, .int 0, .int 199999]) (rest := []) B hP hS (c_isWithin l E ρ a3 0 199999 0 199999 (by decide) (by decide)) lk_RX6_54 rfl rfl hl.1 (Nat.le_of_ble_eq_true rfl) ⟨Nat.le_of_ble_eq_true rfl, Nat.le_of_ble_eq_true rfl⟩ ⟨Nat.le_of_ble_eq_true rfl, Nat.le_of_ble_eq_true rfl⟩ dX6_hop_17) hS (fun r23 ρ24 H locs q25 hP hS => ?_)
    obtain ⟨rfl, q25⟩ := q25
    rcases q25 with ⟨rfl, q25⟩ | ⟨rfl, q25⟩
    · skip
      refine lv_if_ne (tgt := 25) hx hb dX6_hop_20 (by decide) (fun _ => ?_) (fun c26 => absurd c26 (iR_ne (show iR 1 (1) (1) from ⟨by decide, by decide⟩) (show iR 0 (0) (0) from ⟨by decide, by decide⟩) (by decide)))
      refine lv_aload_n hx hb dX6_hop_25 rfl (lv_at hl 1 rfl) ?_
      refine get6 B hP (show hk 0 = 6 by decide +kernel) 0 (by decide) mw_412 rfl dX6_hop_26 ?_
      refine lv_iload_n hx hb dX6_hop_29 rfl (lv_at hl 2 rfl) ?_
      refine lv_topi (fun z27 ez27 => ?_)
      obtain rfl : z27 = nI j21 := ez27.trans ej21
      refine lv_aload hx hb dX6_hop_30 (lv_at hl 0 rfl) ?_
      refine get3 B hP hk22 0 (by decide) mw_95 rfl dX6_hop_32 ?_
      refine lv_iload_n hx hb dX6_hop_35 rfl (lv_at hl 4 rfl) ?_
      obtain ⟨j28, lj28, uj28, ej28⟩ := iR_nat (a := 0) (b := 199999) q25
      refine lv_topi (fun z29 ez29 => ?_)
      obtain rfl : z29 = nI j28 := ez29.trans ej28
      refine call_i (cVt (k := 1) (av := [.int (nI j21), .int (ρ k22 0), .int (nI j28)]) (rest := []) B hP hS (d_X5_channelBy l E ρ r S0 hS0 1 (show hk 1 = 5 by decide +kernel) j21 (by omega) (by omega) (ρ k22 0) (nI j28) hI) lk_RX6_233 (hrecv (ci := 5) B hP (hk_lt (c := 5) (show hk 1 = 5 by decide +kernel) (by decide)) (hcc5 _ _ (show hk 1 = 5 by decide +kernel)) rfl) rfl rfl hl.1 (Nat.le_of_ble_eq_true rfl) ⟨Nat.le_of_ble_eq_true rfl, Nat.le_of_ble_eq_true rfl⟩ ⟨Nat.le_of_ble_eq_true rfl, Nat.le_of_ble_eq_true rfl⟩ dX6_hop_36) hS (fun r30 ρ31 H locs q32 hP hS => ?_)
      obtain ⟨rfl, hI⟩ := q32
      exact ret_i B hr hlk hP hS dX6_hop_39 (⟨rfl, hI⟩)
    · skip
      refine lv_if_ne (tgt := 25) hx hb dX6_hop_20 (by decide) (fun c34 => absurd rfl c34) (fun _ => ?_)
      refine lv_iconst (v := (-1)) hx hb dX6_hop_23 (by decide) ?_
      exact ret_i B hr hlk hP hS dX6_hop_24 (⟨rfl, hI⟩)

theorem lk_RX6_238 : LkV RX6 238 RX3 yX3_isLike cX3_isLike 2 (some .boolean) 1 := ⟨⟨mw_868, mw_869, mw_870, mw_55, mw_871⟩, by decide +kernel⟩
theorem lk_RX6_242 : LkS RX6 242 yX6_bit cX6_bit 1 (some .int) 1 := ⟨⟨mw_872, mw_873, mw_52, mw_874⟩, by decide +kernel⟩
set_option maxHeartbeats 4000000 in
set_option maxRecDepth 100000 in
theorem d_X6_alike (l : Launch) (E : hE) (ρ r : Nat → Nat → Int32) (a1 : Int32) (a2 : Int32) (a3 : Int32) (hI : CI r S0 ρ) : Met l yX6_alike (.code yX6_alike cX6_alike 6 (some .int) :: gw_all) (rmk 3 120) (cPre E ρ [.ref (E.2.1 + 0), .int a1, .int a2, .int a3]) (cI E (fun v ρ1 => ρ = ρ1 ∧ CI r S0 ρ1)) 0 0 (hA E) := by
  refine ent (own := RX6) (by decide) rfl (Nat.le_of_ble_eq_true rfl) ?_
  intro p e s m below meth c ls B hr hlk hl hP hS
  have hx := B.1.1
  have hb := B.1.2.1
  have hown := B.1.2.2.2.1
  have hts := B.1.2.2.2.2
  have hl : lv_has ls 6 [(0, .ref (E.2.1 + 0)), (1, .int a1), (2, .int a2), (3, .int a3)] := hl
  have b95_0 : ∀ (ls : Array Slot) (H : Heap) (locs : List Loc) , lv_has ls 6 [] → WP E ρ H → va_S (hA E) s.heap H locs → iR a1 (0) (1) → W p l e (rmk 3 120) s m ([.ref (E.2.1 + 0), .int a1, .int a2, .int a3] : List Value).toArray below meth c H locs 0 0 (MQ below (cI E (fun v ρ1 => ρ = ρ1 ∧ CI r S0 ρ1)) ([.ref (E.2.1 + 0), .int a1, .int a2, .int a3] : List Value).toArray s 0 0 (hA E)) (F0 m 95 ls [.int 0]) := by
    intro ls H locs  hl hP hS fa1
    refine call_i (cS (av := [.int 0]) (rest := []) B hP hS (d_X6_bit l E ρ r S0 hS0 0 (iR_w (a := 0) (b := 0) (show iR 0 (0) (0) from ⟨by decide, by decide⟩) (by decide) (by decide)) hI) lk_RX6_242 rfl rfl hl.1 (Nat.le_of_ble_eq_true rfl) ⟨Nat.le_of_ble_eq_true rfl, Nat.le_of_ble_eq_true rfl⟩ ⟨Nat.le_of_ble_eq_true rfl, Nat.le_of_ble_eq_true rfl⟩ dX6_alike_95) hS (fun r34 ρ35 H locs q36 hP hS => ?_)
    obtain ⟨rfl, hI⟩ := q36
    exact ret_i B hr hlk hP hS dX6_alike_98 (⟨rfl, hI⟩)
  have b95_1 : ∀ (ls : Array Slot) (H : Heap) (locs : List Loc) , lv_has ls 6 [] → WP E ρ H → va_S (hA E) s.heap H locs → iR a1 (0) (1) → W p l e (rmk 3 120) s m ([.ref (E.2.1 + 0), .int a1, .int a2, .int a3] : List Value).toArray below meth c H locs 0 0 (MQ below (cI E (fun v ρ1 => ρ = ρ1 ∧ CI r S0 ρ1)) ([.ref (E.2.1 + 0), .int a1, .int a2, .int a3] : List Value).toArray s 0 0 (hA E)) (F0 m 95 ls [.int 1]) := by
    intro ls H locs  hl hP hS fa1
    refine call_i (cS (av := [.int 1]) (rest := []) B hP hS (d_X6_bit l E ρ r S0 hS0 1 (iR_w (a := 1) (b := 1) (show iR 1 (1) (1) from ⟨by decide, by decide⟩) (by decide) (by decide)) hI) lk_RX6_242 rfl rfl hl.1 (Nat.le_of_ble_eq_true rfl) ⟨Nat.le_of_ble_eq_true rfl, Nat.le_of_ble_eq_true rfl⟩ ⟨Nat.le_of_ble_eq_true rfl, Nat.le_of_ble_eq_true rfl⟩ dX6_alike_95) hS (fun r38 ρ39 H locs q40 hP hS => ?_)
    obtain ⟨rfl, hI⟩ := q40
    exact ret_i B hr hlk hP hS dX6_alike_98 (⟨rfl, hI⟩)
  refine lv_aload_n hx hb dX6_alike_0 rfl (lv_at hl 0 rfl) ?_
  refine get6 B hP (show hk 0 = 6 by decide +kernel) 0 (by decide) mw_412 rfl dX6_alike_1 ?_
  refine lv_iload_n hx hb dX6_alike_4 rfl (lv_at hl 1 rfl) ?_
  refine lv_iload_n hx hb dX6_alike_5 rfl (lv_at hl 2 rfl) ?_
  refine call_q (cVt (k := 1) (av := [.int a1, .int a2]) (rest := []) B hP hS (d_X5_linkAt l E ρ r S0 hS0 1 (show hk 1 = 5 by decide +kernel) a1 a2 hI) lk_RX6_132 (hrecv (ci := 5) B hP (hk_lt (c := 5) (show hk 1 = 5 by decide +kernel) (by decide)) (hcc5 _ _ (show hk 1 = 5 by decide +kernel)) rfl) rfl rfl hl.1 (Nat.le_of_ble_eq_true rfl) ⟨Nat.le_of_ble_eq_true rfl, Nat.le_of_ble_eq_true rfl⟩ ⟨Nat.le_of_ble_eq_true rfl, Nat.le_of_ble_eq_true rfl⟩ dX6_alike_6) hS (fun r42 ρ43 H locs q44 hP hS => ?_)
  obtain ⟨rfl, hI, q44⟩ := q44
  rcases q44 with rfl | ⟨j45, k46, rfl, hk46, ej45, uj45⟩
  · skip
    refine W.eq (g2 := F0 m 9 ls [.null]) rfl ?_
    refine lv_astoreN (lv' := [(4, .null), (0, .ref (E.2.1 + 0)), (1, .int a1), (2, .int a2), (3, .int a3)]) hx hb dX6_alike_9 hl (by decide) rfl (fun ls hl => ?_)
    refine lv_aloadN hx hb dX6_alike_11 (lv_at hl 0 rfl) ?_
    refine lv_ifnonnullN hx hb dX6_alike_13 ?_
    refine lv_iconst (v := (-1)) hx hb dX6_alike_16 (by decide) ?_
    exact ret_i B hr hlk hP hS dX6_alike_17 (⟨rfl, hI⟩)
  · skip
    refine W.eq (g2 := F0 m 9 ls [.ref (E.2.1 + k46)]) rfl ?_
    refine lv_astore (lv' := [(4, .ref (E.2.1 + k46)), (0, .ref (E.2.1 + 0)), (1, .int a1), (2, .int a2), (3, .int a3)]) hx hb dX6_alike_9 hl (by decide) rfl (fun ls hl => ?_)
    refine lv_aload hx hb dX6_alike_11 (lv_at hl 0 rfl) ?_
    refine lv_ifnonnull (tgt := 18) hx hb dX6_alike_13 (by decide) ?_
    refine lv_aload_n hx hb dX6_alike_18 rfl (lv_at hl 1 rfl) ?_
    refine get6 B hP (show hk 0 = 6 by decide +kernel) 0 (by decide) mw_412 rfl dX6_alike_19 ?_
    refine get5 B hP (show hk 1 = 5 by decide +kernel) 3 (by decide) mw_378 rfl dX6_alike_22 ?_
    refine lv_iload_n hx hb dX6_alike_25 rfl (lv_at hl 2 rfl) ?_
    refine lv_topi (fun z47 ez47 => ?_)
    obtain rfl : z47 = nI j45 := ez47.trans ej45
    refine aldNn (j := j45) B hP (show hk 5 = 11 by decide +kernel) (show hlen 5 = 2 by decide +kernel) rfl (by omega) dX6_alike_26 ?_
    refine get2 B hP (lay5n (k := 1) (n := j45) (by decide +kernel) (by omega)) 0 (by decide) mw_284 rfl dX6_alike_27 ?_
    refine lv_astore (lv' := [(5, .ref (E.2.1 + ((5 + 1 + 42 * j45) + 1))), (4, .ref (E.2.1 + k46)), (0, .ref (E.2.1 + 0)), (1, .int a1), (2, .int a2), (3, .int a3)]) hx hb dX6_alike_30 hl (by decide) rfl (fun ls hl => ?_)
    refine lv_iload_n hx hb dX6_alike_32 rfl (lv_at hl 5 rfl) ?_
    rcases sw_split (x := a3) (lo := 0) (hi := 2) (by decide) with c48 | c48
    · skip
      refine lv_tableOut (tgt := 108) hx hb dX6_alike_33 c48 (by decide) ?_
      refine lv_iconst (v := (-1)) hx hb dX6_alike_108 (by decide) ?_
      exact ret_i B hr hlk hP hS dX6_alike_109 (⟨rfl, hI⟩)
    · skip
      rcases sw_step (x := a3) (n := 0) (n' := 1) (by decide) c48 with c48 | c48
      · skip
        refine lv_tableIn (off := 27) (tgt := 60) hx hb dX6_alike_33 (by rw [c48]; decide) (by rw [c48]; decide) (by rw [c48]; decide) (by decide) ?_
        refine lv_aload hx hb dX6_alike_60 (lv_at hl 1 rfl) ?_
        refine get1 B hP hk46 0 (by decide) mw_196 rfl dX6_alike_62 ?_
        refine lv_aload hx hb dX6_alike_65 (lv_at hl 0 rfl) ?_
        refine call_i (cVt (k := (k46 + 1)) (av := [.ref (E.2.1 + ((5 + 1 + 42 * j45) + 1))]) (rest := []) B hP hS (d_X3_isLike l E ρ r S0 hS0 (k46 + 1) (lay1 hk46).1 ((5 + 1 + 42 * j45) + 1) (lay2 (lay5n (k := 1) (n := j45) (by decide +kernel) (by omega))).1 hI) lk_RX6_238 (hrecv (ci := 3) B hP (hk_lt (c := 3) (lay1 hk46).1 (by decide)) (hcc3 _ _ (lay1 hk46).1) rfl) rfl rfl hl.1 (Nat.le_of_ble_eq_true rfl) ⟨Nat.le_of_ble_eq_true rfl, Nat.le_of_ble_eq_true rfl⟩ ⟨Nat.le_of_ble_eq_true rfl, Nat.le_of_ble_eq_true rfl⟩ dX6_alike_67) hS (fun r49 ρ50 H locs q51 hP hS => ?_)
        obtain ⟨rfl, hI, i52⟩ := q51
        obtain ⟨j53, lj53, uj53, ej53⟩ := iR_nat (a := 0) (b := 1) i52
        refine lv_topi (fun z54 ez54 => ?_)
        obtain rfl : z54 = nI j53 := ez54.trans ej53
        refine call_i (cS (av := [.int (nI j53)]) (rest := []) B hP hS (d_X6_bit l E ρ r S0 hS0 (nI j53) (iR_w (a := 0) (b := 1) (nI_iR (j := j53) (a := 0) (b := 1) (by omega) (by omega) (by omega)) (by decide) (by decide)) hI) lk_RX6_242 rfl rfl hl.1 (Nat.le_of_ble_eq_true rfl) ⟨Nat.le_of_ble_eq_true rfl, Nat.le_of_ble_eq_true rfl⟩ ⟨Nat.le_of_ble_eq_true rfl, Nat.le_of_ble_eq_true rfl⟩ dX6_alike_70) hS (fun r55 ρ56 H locs q57 hP hS => ?_)
        obtain ⟨rfl, hI⟩ := q57
        exact ret_i B hr hlk hP hS dX6_alike_73 (⟨rfl, hI⟩)
      · skip
        rcases sw_step (x := a3) (n := 1) (n' := 2) (by decide) c48 with c48 | c48
        · skip
          refine lv_tableIn (off := 41) (tgt := 74) hx hb dX6_alike_33 (by rw [c48]; decide) (by rw [c48]; decide) (by rw [c48]; decide) (by decide) ?_
          refine lv_aload hx hb dX6_alike_74 (lv_at hl 1 rfl) ?_
          refine get1 B hP hk46 0 (by decide) mw_196 rfl dX6_alike_76 ?_
          refine get3 B hP (lay1 hk46).1 0 (by decide) mw_95 rfl dX6_alike_79 ?_
          refine lv_aload hx hb dX6_alike_82 (lv_at hl 0 rfl) ?_
          refine get3 B hP (lay2 (lay5n (k := 1) (n := j45) (by decide +kernel) (by omega))).1 0 (by decide) mw_95 rfl dX6_alike_84 ?_
          refine lv_icmp_ne (tgt := 94) hx hb dX6_alike_87 (by decide) (fun c59 => ?_) (fun c59 => ?_)
          · skip
            refine lv_iconst (v := 0) hx hb dX6_alike_94 (by decide) ?_
            exact b95_0 ls _ _  (lv_sub hl [] rfl) hP hS (iR_w (show iR a1 0 1 from by rw [ej45]; exact nI_iR (by omega) (by omega) (by omega)) (by decide) (by decide))
          · skip
            refine lv_iconst (v := 1) hx hb dX6_alike_90 (by decide) ?_
            refine lv_goto (tgt := 95) hx hb dX6_alike_91 (by decide) ?_
            exact b95_1 ls _ _  (lv_sub hl [] rfl) hP hS (iR_w (show iR a1 0 1 from by rw [ej45]; exact nI_iR (by omega) (by omega) (by omega)) (by decide) (by decide))
        · skip
          have c48 := sw_last (n := 2) c48
          refine lv_tableIn (off := 66) (tgt := 99) hx hb dX6_alike_33 (by rw [c48]; decide) (by rw [c48]; decide) (by rw [c48]; decide) (by decide) ?_
          refine lv_aload hx hb dX6_alike_99 (lv_at hl 1 rfl) ?_
          refine get1 B hP hk46 5 (by decide) mw_213 rfl dX6_alike_101 ?_
          have i60 : iR (ρ k46 5) 0 1 := CI_get hI (kind_lt hk46 (by decide)) hk46 rfl
          obtain ⟨j61, lj61, uj61, ej61⟩ := iR_nat (a := 0) (b := 1) i60
          refine lv_topi (fun z62 ez62 => ?_)
          obtain rfl : z62 = nI j61 := ez62.trans ej61
          refine call_i (cS (av := [.int (nI j61)]) (rest := []) B hP hS (d_X6_bit l E ρ r S0 hS0 (nI j61) (iR_w (a := 0) (b := 1) (nI_iR (j := j61) (a := 0) (b := 1) (by omega) (by omega) (by omega)) (by decide) (by decide)) hI) lk_RX6_242 rfl rfl hl.1 (Nat.le_of_ble_eq_true rfl) ⟨Nat.le_of_ble_eq_true rfl, Nat.le_of_ble_eq_true rfl⟩ ⟨Nat.le_of_ble_eq_true rfl, Nat.le_of_ble_eq_true rfl⟩ dX6_alike_104) hS (fun r63 ρ64 H locs q65 hP hS => ?_)
          obtain ⟨rfl, hI⟩ := q65
          exact ret_i B hr hlk hP hS dX6_alike_107 (⟨rfl, hI⟩)

set_option maxHeartbeats 4000000 in
set_option maxRecDepth 100000 in
theorem d_X6_mapOf (l : Launch) (E : hE) (ρ r : Nat → Nat → Int32) (a1 : Int32) (a2 : Int32) (a3 : Int32) (hI : CI r S0 ρ) : Met l yX6_mapOf (.code yX6_mapOf cX6_mapOf 5 (some .int) :: gw_all) (rmk 3 120) (cPre E ρ [.ref (E.2.1 + 0), .int a1, .int a2, .int a3]) (cI E (fun v ρ1 => ρ = ρ1 ∧ CI r S0 ρ1)) 0 0 (hA E) := by
  refine ent (own := RX6) (by decide) rfl (Nat.le_of_ble_eq_true rfl) ?_
  intro p e s m below meth c ls B hr hlk hl hP hS
  have hx := B.1.1
  have hb := B.1.2.1
  have hown := B.1.2.2.2.1
  have hts := B.1.2.2.2.2
  have hl : lv_has ls 5 [(0, .ref (E.2.1 + 0)), (1, .int a1), (2, .int a2), (3, .int a3)] := hl
  refine lv_aload_n hx hb dX6_mapOf_0 rfl (lv_at hl 0 rfl) ?_
  refine lv_iload_n hx hb dX6_mapOf_1 rfl (lv_at hl 1 rfl) ?_
  refine lv_iload_n hx hb dX6_mapOf_2 rfl (lv_at hl 2 rfl) ?_
  refine call_q (cVt (k := 0) (av := [.int a1, .int a2]) (rest := []) B hP hS (d_X6_planOf l E ρ r a1 a2 hI) lk_RX6_228 (hrecv (ci := 6) B hP (hk_lt (c := 6) (show hk 0 = 6 by decide +kernel) (by decide)) (hcc6 _ _ (show hk 0 = 6 by decide +kernel)) rfl) rfl rfl hl.1 (Nat.le_of_ble_eq_true rfl) ⟨Nat.le_of_ble_eq_true rfl, Nat.le_of_ble_eq_true rfl⟩ ⟨Nat.le_of_ble_eq_true rfl, Nat.le_of_ble_eq_true rfl⟩ dX6_mapOf_3) hS (fun r10 ρ11 H locs q12 hP hS => ?_)
  obtain ⟨rfl, hI, q12⟩ := q12
  rcases q12 with rfl | ⟨j13, k14, rfl, hk14, ej13, uj13⟩
  · skip
    refine W.eq (g2 := F0 m 6 ls [.null]) rfl ?_
    refine lv_astoreN (lv' := [(4, .null), (0, .ref (E.2.1 + 0)), (1, .int a1), (2, .int a2), (3, .int a3)]) hx hb dX6_mapOf_6 hl (by decide) rfl (fun ls hl => ?_)
    refine lv_aloadN hx hb dX6_mapOf_8 (lv_at hl 0 rfl) ?_
    refine lv_ifnonnullN hx hb dX6_mapOf_10 ?_
    refine lv_iconst (v := (-1)) hx hb dX6_mapOf_13 (by decide) ?_
    exact ret_i B hr hlk hP hS dX6_mapOf_14 (⟨rfl, hI⟩)
  · skip
    refine W.eq (g2 := F0 m 6 ls [.ref (E.2.1 + k14)]) rfl ?_
    refine lv_astore (lv' := [(4, .ref (E.2.1 + k14)), (0, .ref (E.2.1 + 0)), (1, .int a1), (2, .int a2), (3, .int a3)]) hx hb dX6_mapOf_6 hl (by decide) rfl (fun ls hl => ?_)
    refine lv_aload hx hb dX6_mapOf_8 (lv_at hl 0 rfl) ?_
    refine lv_ifnonnull (tgt := 15) hx hb dX6_mapOf_10 (by decide) ?_
    refine lv_iload_n hx hb dX6_mapOf_15 rfl (lv_at hl 4 rfl) ?_
    rcases sw_split (x := a3) (lo := 0) (hi := 3) (by decide) with c15 | c15
    · skip
      refine lv_tableOut (tgt := 88) hx hb dX6_mapOf_16 c15 (by decide) ?_
      refine lv_iconst (v := (-1)) hx hb dX6_mapOf_88 (by decide) ?_
      exact ret_i B hr hlk hP hS dX6_mapOf_89 (⟨rfl, hI⟩)
    · skip
      rcases sw_step (x := a3) (n := 0) (n' := 1) (by decide) c15 with c15 | c15
      · skip
        refine lv_tableIn (off := 32) (tgt := 48) hx hb dX6_mapOf_16 (by rw [c15]; decide) (by rw [c15]; decide) (by rw [c15]; decide) (by decide) ?_
        refine lv_aload hx hb dX6_mapOf_48 (lv_at hl 0 rfl) ?_
        refine get3 B hP hk14 0 (by decide) mw_95 rfl dX6_mapOf_50 ?_
        exact ret_i B hr hlk hP hS dX6_mapOf_53 (⟨rfl, hI⟩)
      · skip
        rcases sw_step (x := a3) (n := 1) (n' := 2) (by decide) c15 with c15 | c15
        · skip
          refine lv_tableIn (off := 38) (tgt := 54) hx hb dX6_mapOf_16 (by rw [c15]; decide) (by rw [c15]; decide) (by rw [c15]; decide) (by decide) ?_
          refine lv_aload hx hb dX6_mapOf_54 (lv_at hl 0 rfl) ?_
          refine get3 B hP hk14 1 (by decide) mw_98 rfl dX6_mapOf_56 ?_
          exact ret_i B hr hlk hP hS dX6_mapOf_59 (⟨rfl, hI⟩)
        · skip
          rcases sw_step (x := a3) (n := 2) (n' := 3) (by decide) c15 with c15 | c15
          · skip
            refine lv_tableIn (off := 44) (tgt := 60) hx hb dX6_mapOf_16 (by rw [c15]; decide) (by rw [c15]; decide) (by rw [c15]; decide) (by decide) ?_
            refine lv_aload hx hb dX6_mapOf_60 (lv_at hl 0 rfl) ?_
            refine get3 B hP hk14 2 (by decide) mw_101 rfl dX6_mapOf_62 ?_
            exact ret_i B hr hlk hP hS dX6_mapOf_65 (⟨rfl, hI⟩)
          · skip
            have c15 := sw_last (n := 3) c15
            refine lv_tableIn (off := 50) (tgt := 66) hx hb dX6_mapOf_16 (by rw [c15]; decide) (by rw [c15]; decide) (by rw [c15]; decide) (by decide) ?_
            refine lv_iload_n hx hb dX6_mapOf_66 rfl (lv_at hl 3 rfl) ?_
            refine lv_iconst (v := (-1)) hx hb dX6_mapOf_67 (by decide) ?_
            refine lv_icmp_ne (tgt := 86) hx hb dX6_mapOf_68 (by decide) (fun c16 => ?_) (fun c16 => ?_)
            · skip
              refine lv_iconst (v := (-1)) hx hb dX6_mapOf_86 (by decide) ?_
              exact ret_i B hr hlk hP hS dX6_mapOf_87 (⟨rfl, hI⟩)
            · skip
              have i17 : iR a2 (-1) (-1) := (by rw [c16]; exact ⟨by decide, by decide⟩)
              refine lv_aload_n hx hb dX6_mapOf_71 rfl (lv_at hl 1 rfl) ?_
              refine get6 B hP (show hk 0 = 6 by decide +kernel) 0 (by decide) mw_412 rfl dX6_mapOf_72 ?_
              refine get5 B hP (show hk 1 = 5 by decide +kernel) 3 (by decide) mw_378 rfl dX6_mapOf_75 ?_
              refine lv_iload_n hx hb dX6_mapOf_78 rfl (lv_at hl 2 rfl) ?_
              refine lv_topi (fun z18 ez18 => ?_)
              obtain rfl : z18 = nI j13 := ez18.trans ej13
              refine aldNn (j := j13) B hP (show hk 5 = 11 by decide +kernel) (show hlen 5 = 2 by decide +kernel) rfl (by omega) dX6_mapOf_79 ?_
              refine get2 B hP (lay5n (k := 1) (n := j13) (by decide +kernel) (by omega)) 7 (by decide) mw_302 rfl dX6_mapOf_80 ?_
              refine lv_goto (tgt := 87) hx hb dX6_mapOf_83 (by decide) ?_
              exact ret_i B hr hlk hP hS dX6_mapOf_87 (⟨rfl, hI⟩)

theorem lk_RX6_259 : LkV RX6 259 RX5 yX5_hasBothNets cX5_hasBothNets 1 (some .boolean) 0 := ⟨⟨mw_883, mw_884, mw_885, mw_53, mw_886⟩, by decide +kernel⟩
theorem lk_RX6_262 : LkV RX6 262 RX5 yX5_mastersMeet cX5_mastersMeet 2 (some .boolean) 1 := ⟨⟨mw_887, mw_888, mw_889, mw_53, mw_890⟩, by decide +kernel⟩
set_option maxHeartbeats 4000000 in
set_option maxRecDepth 100000 in
theorem d_X6_meets (l : Launch) (E : hE) (ρ r : Nat → Nat → Int32) (hI : CI r S0 ρ) : Met l yX6_meets (.code yX6_meets cX6_meets 2 (some .int) :: gw_all) (rmk 6 240) (cPre E ρ [.ref (E.2.1 + 0)]) (cI E (fun v ρ1 => ρ = ρ1 ∧ CI r S0 ρ1)) 0 0 (hA E) := by
  refine ent (own := RX6) (by decide) rfl (Nat.le_of_ble_eq_true rfl) ?_
  intro p e s m below meth c ls B hr hlk hl hP hS
  have hx := B.1.1
  have hb := B.1.2.1
  have hown := B.1.2.2.2.1
  have hts := B.1.2.2.2.2
  have hl : lv_has ls 2 [(0, .ref (E.2.1 + 0))] := hl
  have b14_0 : ∀ (ls : Array Slot) (H : Heap) (locs : List Loc) (d14 : Nat) (j14_1 : Nat), lv_has ls 2 [(0, .ref (E.2.1 + 0)), (1, .int (nI j14_1))] → WP E ρ H → va_S (hA E) s.heap H locs → 4001 - j14_1 < d14 → 0 ≤ j14_1 → j14_1 ≤ 4000 → W p l e (rmk 6 240) s m ([.ref (E.2.1 + 0)] : List Value).toArray below meth c H locs 0 0 (MQ below (cI E (fun v ρ1 => ρ = ρ1 ∧ CI r S0 ρ1)) ([.ref (E.2.1 + 0)] : List Value).toArray s 0 0 (hA E)) (F0 m 14 ls []) := by
    intro ls H locs d14
    induction d14 generalizing ls H locs with
    | zero => intro j14_1 hl hP hS hd14 lj14_1 uj14_1; exact absurd hd14 (Nat.not_lt_zero _)
    | succ d14 ih14 =>
      intro j14_1 hl hP hS hd14 lj14_1 uj14_1
      refine lv_iload_n hx hb dX6_meets_14 rfl (lv_at hl 1 rfl) ?_
      refine lv_sipush (v := 4000) hx hb dX6_meets_15 (by decide) ?_
      refine lv_icmp_ge (tgt := 56) hx hb dX6_meets_18 (by decide) (fun c112 => ?_) (fun c112 => ?_)
      · skip
        have n113 := mt (nx_lt (a := j14_1) (b := 4000) (by omega) (by omega)).mpr (show ¬ (nI j14_1 < nI 4000) from (Int32.not_lt.mpr c112))
        refine lv_iconst (v := (-1)) hx hb dX6_meets_56 (by decide) ?_
        exact ret_i B hr hlk hP hS dX6_meets_57 (⟨rfl, hI⟩)
      · skip
        have n114 := (nx_lt (a := j14_1) (b := 4000) (by omega) (by omega)).mp (show (nI j14_1 < nI 4000) from (Int32.not_le.mp c112))
        refine lv_aload_n hx hb dX6_meets_21 rfl (lv_at hl 0 rfl) ?_
        refine get6 B hP (show hk 0 = 6 by decide +kernel) 0 (by decide) mw_412 rfl dX6_meets_22 ?_
        refine lv_aload_n hx hb dX6_meets_25 rfl (lv_at hl 0 rfl) ?_
        refine get6 B hP (show hk 0 = 6 by decide +kernel) 0 (by decide) mw_412 rfl dX6_meets_26 ?_
        refine get5 B hP (show hk 1 = 5 by decide +kernel) 5 (by decide) mw_382 rfl dX6_meets_29 ?_
        refine lv_iload_n hx hb dX6_meets_32 rfl (lv_at hl 1 rfl) ?_
        refine lv_iadd hx hb dX6_meets_33 ?_
        refine call_i (cVt (k := 1) (av := [.int ((ρ 1 5) + (nI j14_1))]) (rest := []) B hP hS (d_X5_mastersMeet l E ρ r S0 hS0 1 (show hk 1 = 5 by decide +kernel) ((ρ 1 5) + (nI j14_1)) hI) lk_RX6_262 (hrecv (ci := 5) B hP (hk_lt (c := 5) (show hk 1 = 5 by decide +kernel) (by decide)) (hcc5 _ _ (show hk 1 = 5 by decide +kernel)) rfl) rfl rfl hl.1 (Nat.le_of_ble_eq_true rfl) ⟨Nat.le_of_ble_eq_true rfl, Nat.le_of_ble_eq_true rfl⟩ ⟨Nat.le_of_ble_eq_true rfl, Nat.le_of_ble_eq_true rfl⟩ dX6_meets_34) hS (fun r115 ρ116 H locs q117 hP hS => ?_)
        obtain ⟨rfl, hI, i118⟩ := q117
        obtain ⟨j119, lj119, uj119, ej119⟩ := iR_nat (a := 0) (b := 1) i118
        refine lv_topi (fun z120 ez120 => ?_)
        obtain rfl : z120 = nI j119 := ez120.trans ej119
        refine lv_if_eq (tgt := 50) hx hb dX6_meets_37 (by decide) (fun c121 => ?_) (fun c121 => ?_)
        · skip
          have n122 := (nI_eq (a := j119) (b := 0) (by omega) (by omega)).mp (show (nI j119 = nI 0) from c121)
          refine lv_iinc (v := (nI (1 + j14_1))) (lv' := [(1, .int (nI (1 + j14_1))), (0, .ref (E.2.1 + 0))]) hx hb dX6_meets_50 hl (k := 1) rfl (show nI j14_1 + nI 1 = _ from (nI_add _ _).trans (congrArg nI (by omega))) (by decide) rfl (fun ls hl => ?_)
          refine lv_goto (tgt := 14) hx hb dX6_meets_53 (by decide) ?_
          exact ih14 ls _ _ (1 + j14_1) (lv_sub hl [1, 0] rfl) hP hS (by omega) (by omega) (by omega)
        · skip
          have n123 := mt (nI_eq (a := j119) (b := 0) (by omega) (by omega)).mpr (show ¬ (nI j119 = nI 0) from c121)
          refine lv_aload_n hx hb dX6_meets_40 rfl (lv_at hl 0 rfl) ?_
          refine get6 B hP (show hk 0 = 6 by decide +kernel) 0 (by decide) mw_412 rfl dX6_meets_41 ?_
          refine get5 B hP (show hk 1 = 5 by decide +kernel) 5 (by decide) mw_382 (v := .int (ρ 1 5)) (show some (Value.int (ρ 1 5)) = some (Value.int (ρ 1 5)) from congrArg (fun z => some (Value.int z)) rfl) dX6_meets_44 ?_
          refine lv_iload_n hx hb dX6_meets_47 rfl (lv_at hl 1 rfl) ?_
          refine lv_iadd hx hb dX6_meets_48 ?_
          exact ret_i B hr hlk hP hS dX6_meets_49 (⟨rfl, hI⟩)
  refine lv_aload_n hx hb dX6_meets_0 rfl (lv_at hl 0 rfl) ?_
  refine get6 B hP (show hk 0 = 6 by decide +kernel) 0 (by decide) mw_412 rfl dX6_meets_1 ?_
  refine call_i (cVt (k := 1) (av := []) (rest := []) B hP hS (d_X5_hasBothNets l E ρ r S0 hS0 1 (show hk 1 = 5 by decide +kernel) hI) lk_RX6_259 (hrecv (ci := 5) B hP (hk_lt (c := 5) (show hk 1 = 5 by decide +kernel) (by decide)) (hcc5 _ _ (show hk 1 = 5 by decide +kernel)) rfl) rfl rfl hl.1 (Nat.le_of_ble_eq_true rfl) ⟨Nat.le_of_ble_eq_true rfl, Nat.le_of_ble_eq_true rfl⟩ ⟨Nat.le_of_ble_eq_true rfl, Nat.le_of_ble_eq_true rfl⟩ dX6_meets_4) hS (fun r124 ρ125 H locs q126 hP hS => ?_)
  obtain ⟨rfl, hI, i127⟩ := q126
  obtain ⟨j128, lj128, uj128, ej128⟩ := iR_nat (a := 0) (b := 1) i127
  refine lv_topi (fun z129 ez129 => ?_)
  obtain rfl : z129 = nI j128 := ez129.trans ej128
  refine lv_if_ne (tgt := 12) hx hb dX6_meets_7 (by decide) (fun c130 => ?_) (fun c130 => ?_)
  · skip
    have n131 := mt (nI_eq (a := j128) (b := 0) (by omega) (by omega)).mpr (show ¬ (nI j128 = nI 0) from c130)
    refine lv_iconst (v := 0) hx hb dX6_meets_12 (by decide) ?_
    refine lv_istore_n (lv' := [(1, .int 0), (0, .ref (E.2.1 + 0))]) hx hb dX6_meets_13 rfl hl (by decide) rfl (fun ls hl => ?_)
    exact b14_0 ls _ _ _ 0 (lv_sub hl [1, 0] rfl) hP hS (Nat.lt_succ_self _) (by omega) (by omega)
  · skip
    have n132 := (nI_eq (a := j128) (b := 0) (by omega) (by omega)).mp (show (nI j128 = nI 0) from c130)
    refine lv_iconst (v := (-1)) hx hb dX6_meets_10 (by decide) ?_
    exact ret_i B hr hlk hP hS dX6_meets_11 (⟨rfl, hI⟩)

set_option maxHeartbeats 4000000 in
set_option maxRecDepth 100000 in
theorem d_X6_used (l : Launch) (E : hE) (ρ r : Nat → Nat → Int32) (a1 : Int32) (a2 : Int32) (a3 : Int32) (hI : CI r S0 ρ) : Met l yX6_used (.code yX6_used cX6_used 7 (some .int) :: gw_all) (rmk 5 200) (cPre E ρ [.ref (E.2.1 + 0), .int a1, .int a2, .int a3]) (cI E (fun v ρ1 => ρ = ρ1 ∧ CI r S0 ρ1)) 0 0 (hA E) := by
  refine ent (own := RX6) (by decide) rfl (Nat.le_of_ble_eq_true rfl) ?_
  intro p e s m below meth c ls B hr hlk hl hP hS
  have hx := B.1.1
  have hb := B.1.2.1
  have hown := B.1.2.2.2.1
  have hts := B.1.2.2.2.2
  have hl : lv_has ls 7 [(0, .ref (E.2.1 + 0)), (1, .int a1), (2, .int a2), (3, .int a3)] := hl
  have b44_0 : ∀ (ls : Array Slot) (H : Heap) (locs : List Loc) (d44 : Nat) (k44_4 : Nat) (x44_5 : Int32) (j44_6 : Nat), lv_has ls 7 [(0, .ref (E.2.1 + 0)), (1, .int a1), (2, .int a2), (3, .int a3), (4, .ref (E.2.1 + k44_4)), (5, .int x44_5), (6, .int (nI j44_6))] → WP E ρ H → va_S (hA E) s.heap H locs → 513 - j44_6 < d44 → hk k44_4 = 2 → iR x44_5 (-2147483648) (2147483647) → 0 ≤ j44_6 → j44_6 ≤ 512 → iR a1 (0) (1) → iR a2 (0) (22) → iR a3 (1) (512) → W p l e (rmk 5 200) s m ([.ref (E.2.1 + 0), .int a1, .int a2, .int a3] : List Value).toArray below meth c H locs 0 0 (MQ below (cI E (fun v ρ1 => ρ = ρ1 ∧ CI r S0 ρ1)) ([.ref (E.2.1 + 0), .int a1, .int a2, .int a3] : List Value).toArray s 0 0 (hA E)) (F0 m 44 ls []) := by
    intro ls H locs d44
    induction d44 generalizing ls H locs with
    | zero => intro k44_4 x44_5 j44_6 hl hP hS hd44 hk44_4 hx44_5 lj44_6 uj44_6 fa1 fa2 fa3; exact absurd hd44 (Nat.not_lt_zero _)
    | succ d44 ih44 =>
      intro k44_4 x44_5 j44_6 hl hP hS hd44 hk44_4 hx44_5 lj44_6 uj44_6 fa1 fa2 fa3
      have b83_0 : ∀ (ls : Array Slot) (H : Heap) (locs : List Loc) (x83_5 : Int32), lv_has ls 7 [(0, .ref (E.2.1 + 0)), (1, .int a1), (2, .int a2), (3, .int a3), (4, .ref (E.2.1 + k44_4)), (5, .int x83_5), (6, .int (nI j44_6))] → WP E ρ H → va_S (hA E) s.heap H locs → iR x83_5 (-2147483648) (2147483647) → iR a1 (0) (1) → iR a2 (0) (22) → iR a3 (1) (512) → 0 ≤ j44_6 → j44_6 ≤ 511 → W p l e (rmk 5 200) s m ([.ref (E.2.1 + 0), .int a1, .int a2, .int a3] : List Value).toArray below meth c H locs 0 0 (MQ below (cI E (fun v ρ1 => ρ = ρ1 ∧ CI r S0 ρ1)) ([.ref (E.2.1 + 0), .int a1, .int a2, .int a3] : List Value).toArray s 0 0 (hA E)) (F0 m 83 ls []) := by
        intro ls H locs x83_5 hl hP hS hx83_5 fa1 fa2 fa3 tlj44_6 tuj44_6
        refine lv_iinc (v := (nI (1 + j44_6))) (lv' := [(6, .int (nI (1 + j44_6))), (0, .ref (E.2.1 + 0)), (1, .int a1), (2, .int a2), (3, .int a3), (4, .ref (E.2.1 + k44_4)), (5, .int x83_5)]) hx hb dX6_used_83 hl (k := 6) rfl (show nI j44_6 + nI 1 = _ from (nI_add _ _).trans (congrArg nI (by omega))) (by decide) rfl (fun ls hl => ?_)
        refine lv_goto (tgt := 44) hx hb dX6_used_86 (by decide) ?_
        exact ih44 ls _ _ k44_4 (x83_5 : Int32) (1 + j44_6) (lv_sub hl [1, 2, 3, 4, 5, 6, 0] rfl) hP hS (by omega) hk44_4 (iR_w hx83_5 (by decide) (by decide)) (by omega) (by omega) (iR_w fa1 (by decide) (by decide)) (iR_w fa2 (by decide) (by decide)) (iR_w fa3 (by decide) (by decide))
      refine lv_iload hx hb dX6_used_44 (lv_at hl 6 rfl) ?_
      refine lv_iload_n hx hb dX6_used_46 rfl (lv_at hl 3 rfl) ?_
      obtain ⟨j269, lj269, uj269, ej269⟩ := iR_nat (a := 1) (b := 512) fa3
      refine lv_topi (fun z270 ez270 => ?_)
      obtain rfl : z270 = nI j269 := ez270.trans ej269
      refine lv_icmp_ge (tgt := 89) hx hb dX6_used_47 (by decide) (fun c271 => ?_) (fun c271 => ?_)
      · skip
        have n272 := mt (nx_lt (a := j44_6) (b := j269) (by omega) (by omega)).mpr (show ¬ (nI j44_6 < nI j269) from (Int32.not_lt.mpr c271))
        refine lv_iload hx hb dX6_used_89 (lv_at hl 5 rfl) ?_
        exact ret_i B hr hlk hP hS dX6_used_91 (⟨rfl, hI⟩)
      · skip
        have n273 := (nx_lt (a := j44_6) (b := j269) (by omega) (by omega)).mp (show (nI j44_6 < nI j269) from (Int32.not_le.mp c271))
        refine lv_aload_n hx hb dX6_used_50 rfl (lv_at hl 0 rfl) ?_
        refine get6 B hP (show hk 0 = 6 by decide +kernel) 0 (by decide) mw_412 rfl dX6_used_51 ?_
        refine lv_iload_n hx hb dX6_used_54 rfl (lv_at hl 1 rfl) ?_
        obtain ⟨j274, lj274, uj274, ej274⟩ := iR_nat (a := 0) (b := 1) fa1
        refine lv_topi (fun z275 ez275 => ?_)
        obtain rfl : z275 = nI j274 := ez275.trans ej274
        refine lv_aload hx hb dX6_used_55 (lv_at hl 4 rfl) ?_
        refine get2 B hP hk44_4 0 (by decide) mw_284 rfl dX6_used_57 ?_
        refine get3 B hP (lay2 hk44_4).1 0 (by decide) mw_95 rfl dX6_used_60 ?_
        refine lv_aload_n hx hb dX6_used_63 rfl (lv_at hl 0 rfl) ?_
        refine get6 B hP (show hk 0 = 6 by decide +kernel) 0 (by decide) mw_412 rfl dX6_used_64 ?_
        refine get5 B hP (show hk 1 = 5 by decide +kernel) 5 (by decide) mw_382 rfl dX6_used_67 ?_
        refine lv_iload hx hb dX6_used_70 (lv_at hl 6 rfl) ?_
        refine lv_iadd hx hb dX6_used_72 ?_
        refine call_i (cVt (k := 1) (av := [.int (nI j274), .int (ρ (k44_4 + 1) 0), .int ((ρ 1 5) + (nI j44_6))]) (rest := []) B hP hS (d_X5_channelBy l E ρ r S0 hS0 1 (show hk 1 = 5 by decide +kernel) j274 (by omega) (by omega) (ρ (k44_4 + 1) 0) ((ρ 1 5) + (nI j44_6)) hI) lk_RX6_233 (hrecv (ci := 5) B hP (hk_lt (c := 5) (show hk 1 = 5 by decide +kernel) (by decide)) (hcc5 _ _ (show hk 1 = 5 by decide +kernel)) rfl) rfl rfl hl.1 (Nat.le_of_ble_eq_true rfl) ⟨Nat.le_of_ble_eq_true rfl, Nat.le_of_ble_eq_true rfl⟩ ⟨Nat.le_of_ble_eq_true rfl, Nat.le_of_ble_eq_true rfl⟩ dX6_used_73) hS (fun r276 ρ277 H locs q278 hP hS => ?_)
        obtain ⟨rfl, hI⟩ := q278
        refine lv_iload_n hx hb dX6_used_76 rfl (lv_at hl 2 rfl) ?_
        obtain ⟨j280, lj280, uj280, ej280⟩ := iR_nat (a := 0) (b := 22) fa2
        refine lv_topi (fun z281 ez281 => ?_)
        obtain rfl : z281 = nI j280 := ez281.trans ej280
        refine lv_icmp_ne (tgt := 83) hx hb dX6_used_77 (by decide) (fun c282 => ?_) (fun c282 => ?_)
        · skip
          exact b83_0 ls _ _ (x44_5 : Int32) (lv_sub hl [0, 1, 2, 3, 4, 5, 6] rfl) hP hS (iR_w hx44_5 (by decide) (by decide)) (iR_w fa1 (by decide) (by decide)) (iR_w fa2 (by decide) (by decide)) (iR_w fa3 (by decide) (by decide)) (by omega) (by omega)
        · skip
          have i283 : iR r276 (0) (22) := (by rw [c282]; exact (nI_iR (j := j280) (a := 0) (b := 22) (by omega) (by omega) (by omega)))
          refine lv_iinc (v := (x44_5 + 1)) (lv' := [(5, .int (x44_5 + 1)), (0, .ref (E.2.1 + 0)), (1, .int a1), (2, .int a2), (3, .int a3), (4, .ref (E.2.1 + k44_4)), (6, .int (nI j44_6))]) hx hb dX6_used_80 hl (k := 5) rfl rfl (by decide) rfl (fun ls hl => ?_)
          exact b83_0 ls _ _ ((x44_5 + 1) : Int32) (lv_sub hl [1, 2, 3, 4, 5, 0, 6] rfl) hP hS (iR_w (iR_any (x44_5 + 1)) (by decide) (by decide)) (iR_w fa1 (by decide) (by decide)) (iR_w fa2 (by decide) (by decide)) (iR_w fa3 (by decide) (by decide)) (by omega) (by omega)
  refine lv_aload_n hx hb dX6_used_0 rfl (lv_at hl 0 rfl) ?_
  refine get6 B hP (show hk 0 = 6 by decide +kernel) 0 (by decide) mw_412 rfl dX6_used_1 ?_
  refine lv_iload_n hx hb dX6_used_4 rfl (lv_at hl 1 rfl) ?_
  refine call_q (cVt (k := 1) (av := [.int a1]) (rest := []) B hP hS (d_X5_netAt l E ρ r S0 hS0 1 (show hk 1 = 5 by decide +kernel) a1 hI) lk_RX6_95 (hrecv (ci := 5) B hP (hk_lt (c := 5) (show hk 1 = 5 by decide +kernel) (by decide)) (hcc5 _ _ (show hk 1 = 5 by decide +kernel)) rfl) rfl rfl hl.1 (Nat.le_of_ble_eq_true rfl) ⟨Nat.le_of_ble_eq_true rfl, Nat.le_of_ble_eq_true rfl⟩ ⟨Nat.le_of_ble_eq_true rfl, Nat.le_of_ble_eq_true rfl⟩ dX6_used_5) hS (fun r284 ρ285 H locs q286 hP hS => ?_)
  obtain ⟨rfl, hI, q286⟩ := q286
  rcases q286 with rfl | ⟨j287, rfl, ej287, uj287⟩
  · skip
    refine W.eq (g2 := F0 m 8 ls [.null]) rfl ?_
    refine lv_astoreN (lv' := [(4, .null), (0, .ref (E.2.1 + 0)), (1, .int a1), (2, .int a2), (3, .int a3)]) hx hb dX6_used_8 hl (by decide) rfl (fun ls hl => ?_)
    refine lv_aloadN hx hb dX6_used_10 (lv_at hl 0 rfl) ?_
    refine lv_ifnullN (tgt := 36) hx hb dX6_used_12 (by decide) ?_
    refine lv_iconst (v := (-1)) hx hb dX6_used_36 (by decide) ?_
    exact ret_i B hr hlk hP hS dX6_used_37 (⟨rfl, hI⟩)
  · skip
    refine W.eq (g2 := F0 m 8 ls [.ref (E.2.1 + (5 + 1 + 42 * j287))]) rfl ?_
    refine lv_astore (lv' := [(4, .ref (E.2.1 + (5 + 1 + 42 * j287))), (0, .ref (E.2.1 + 0)), (1, .int a1), (2, .int a2), (3, .int a3)]) hx hb dX6_used_8 hl (by decide) rfl (fun ls hl => ?_)
    refine lv_aload hx hb dX6_used_10 (lv_at hl 0 rfl) ?_
    refine lv_ifnull hx hb dX6_used_12 ?_
    refine lv_iload_n hx hb dX6_used_15 rfl (lv_at hl 3 rfl) ?_
    refine lv_iconst (v := 0) hx hb dX6_used_16 (by decide) ?_
    refine lv_bipush (v := 22) hx hb dX6_used_17 (by decide) ?_
    refine call_i (cS (av := [.int a2, .int 0, .int 22]) (rest := []) B hP hS (c_isWithin l E ρ a2 0 22 0 22 (by decide) (by decide)) lk_RX6_54 rfl rfl hl.1 (Nat.le_of_ble_eq_true rfl) ⟨Nat.le_of_ble_eq_true rfl, Nat.le_of_ble_eq_true rfl⟩ ⟨Nat.le_of_ble_eq_true rfl, Nat.le_of_ble_eq_true rfl⟩ dX6_used_19) hS (fun r289 ρ290 H locs q291 hP hS => ?_)
    obtain ⟨rfl, q291⟩ := q291
    rcases q291 with ⟨rfl, q291⟩ | ⟨rfl, q291⟩
    · skip
      refine lv_if_eq (tgt := 36) hx hb dX6_used_22 (by decide) (fun c292 => absurd c292 (iR_ne (show iR 1 (1) (1) from ⟨by decide, by decide⟩) (show iR 0 (0) (0) from ⟨by decide, by decide⟩) (by decide))) (fun _ => ?_)
      refine lv_iload_n hx hb dX6_used_25 rfl (lv_at hl 4 rfl) ?_
      refine lv_iconst (v := 1) hx hb dX6_used_26 (by decide) ?_
      refine lv_sipush (v := 512) hx hb dX6_used_27 (by decide) ?_
      refine call_i (cS (av := [.int a3, .int 1, .int 512]) (rest := []) B hP hS (c_isWithin l E ρ a3 1 512 1 512 (by decide) (by decide)) lk_RX6_54 rfl rfl hl.1 (Nat.le_of_ble_eq_true rfl) ⟨Nat.le_of_ble_eq_true rfl, Nat.le_of_ble_eq_true rfl⟩ ⟨Nat.le_of_ble_eq_true rfl, Nat.le_of_ble_eq_true rfl⟩ dX6_used_30) hS (fun r293 ρ294 H locs q295 hP hS => ?_)
      obtain ⟨rfl, q295⟩ := q295
      rcases q295 with ⟨rfl, q295⟩ | ⟨rfl, q295⟩
      · skip
        refine lv_if_ne (tgt := 38) hx hb dX6_used_33 (by decide) (fun _ => ?_) (fun c296 => absurd c296 (iR_ne (show iR 1 (1) (1) from ⟨by decide, by decide⟩) (show iR 0 (0) (0) from ⟨by decide, by decide⟩) (by decide)))
        refine lv_iconst (v := 0) hx hb dX6_used_38 (by decide) ?_
        refine lv_istore (lv' := [(5, .int 0), (4, .ref (E.2.1 + (5 + 1 + 42 * j287))), (0, .ref (E.2.1 + 0)), (1, .int a1), (2, .int a2), (3, .int a3)]) hx hb dX6_used_39 hl (by decide) rfl (fun ls hl => ?_)
        refine lv_iconst (v := 0) hx hb dX6_used_41 (by decide) ?_
        refine lv_istore (lv' := [(6, .int 0), (5, .int 0), (4, .ref (E.2.1 + (5 + 1 + 42 * j287))), (0, .ref (E.2.1 + 0)), (1, .int a1), (2, .int a2), (3, .int a3)]) hx hb dX6_used_42 hl (by decide) rfl (fun ls hl => ?_)
        exact b44_0 ls _ _ _ (5 + 1 + 42 * j287) (0 : Int32) 0 (lv_sub hl [3, 4, 5, 6, 2, 1, 0] rfl) hP hS (Nat.lt_succ_self _) (lay5n (k := 1) (n := j287) (by decide +kernel) uj287) (iR_w (show iR 0 (0) (0) from ⟨by decide, by decide⟩) (by decide) (by decide)) (by omega) (by omega) (iR_w (show iR a1 0 1 from by rw [ej287]; exact nI_iR (by omega) (by omega) (by omega)) (by decide) (by decide)) (iR_w q291 (by decide) (by decide)) (iR_w q295 (by decide) (by decide))
      · skip
        refine lv_if_ne (tgt := 38) hx hb dX6_used_33 (by decide) (fun c297 => absurd rfl c297) (fun _ => ?_)
        refine lv_iconst (v := (-1)) hx hb dX6_used_36 (by decide) ?_
        exact ret_i B hr hlk hP hS dX6_used_37 (⟨rfl, hI⟩)
    · skip
      refine lv_if_eq (tgt := 36) hx hb dX6_used_22 (by decide) (fun _ => ?_) (fun c298 => absurd rfl c298)
      refine lv_iconst (v := (-1)) hx hb dX6_used_36 (by decide) ?_
      exact ret_i B hr hlk hP hS dX6_used_37 (⟨rfl, hI⟩)

set_option maxHeartbeats 4000000 in
set_option maxRecDepth 100000 in
theorem d_X6_bad (l : Launch) (E : hE) (ρ r : Nat → Nat → Int32) (a1 : Int32) (a2 : Int32) (hI : CI r S0 ρ) : Met l yX6_bad (.code yX6_bad cX6_bad 4 (some .int) :: gw_all) (rmk 2 80) (cPre E ρ [.ref (E.2.1 + 0), .int a1, .int a2]) (cI E (fun v ρ1 => ρ = ρ1 ∧ CI r S0 ρ1)) 0 0 (hA E) := by
  refine ent (own := RX6) (by decide) rfl (Nat.le_of_ble_eq_true rfl) ?_
  intro p e s m below meth c ls B hr hlk hl hP hS
  have hx := B.1.1
  have hb := B.1.2.1
  have hown := B.1.2.2.2.1
  have hts := B.1.2.2.2.2
  have hl : lv_has ls 4 [(0, .ref (E.2.1 + 0)), (1, .int a1), (2, .int a2)] := hl
  refine lv_aload_n hx hb dX6_bad_0 rfl (lv_at hl 0 rfl) ?_
  refine get6 B hP (show hk 0 = 6 by decide +kernel) 0 (by decide) mw_412 rfl dX6_bad_1 ?_
  refine lv_iload_n hx hb dX6_bad_4 rfl (lv_at hl 1 rfl) ?_
  refine call_q (cVt (k := 1) (av := [.int a1]) (rest := []) B hP hS (d_X5_netAt l E ρ r S0 hS0 1 (show hk 1 = 5 by decide +kernel) a1 hI) lk_RX6_95 (hrecv (ci := 5) B hP (hk_lt (c := 5) (show hk 1 = 5 by decide +kernel) (by decide)) (hcc5 _ _ (show hk 1 = 5 by decide +kernel)) rfl) rfl rfl hl.1 (Nat.le_of_ble_eq_true rfl) ⟨Nat.le_of_ble_eq_true rfl, Nat.le_of_ble_eq_true rfl⟩ ⟨Nat.le_of_ble_eq_true rfl, Nat.le_of_ble_eq_true rfl⟩ dX6_bad_5) hS (fun r17 ρ18 H locs q19 hP hS => ?_)
  obtain ⟨rfl, hI, q19⟩ := q19
  rcases q19 with rfl | ⟨j20, rfl, ej20, uj20⟩
  · skip
    refine W.eq (g2 := F0 m 8 ls [.null]) rfl ?_
    refine lv_astore_nN (lv' := [(3, .null), (0, .ref (E.2.1 + 0)), (1, .int a1), (2, .int a2)]) hx hb dX6_bad_8 rfl hl (by decide) rfl (fun ls hl => ?_)
    refine lv_aload_nN hx hb dX6_bad_9 rfl (lv_at hl 0 rfl) ?_
    refine lv_ifnullN (tgt := 23) hx hb dX6_bad_10 (by decide) ?_
    refine lv_iconst (v := (-1)) hx hb dX6_bad_23 (by decide) ?_
    refine lv_goto (tgt := 32) hx hb dX6_bad_24 (by decide) ?_
    exact ret_i B hr hlk hP hS dX6_bad_32 (⟨rfl, hI⟩)
  · skip
    refine W.eq (g2 := F0 m 8 ls [.ref (E.2.1 + (5 + 1 + 42 * j20))]) rfl ?_
    refine lv_astore_n (lv' := [(3, .ref (E.2.1 + (5 + 1 + 42 * j20))), (0, .ref (E.2.1 + 0)), (1, .int a1), (2, .int a2)]) hx hb dX6_bad_8 rfl hl (by decide) rfl (fun ls hl => ?_)
    refine lv_aload_n hx hb dX6_bad_9 rfl (lv_at hl 0 rfl) ?_
    refine lv_ifnull hx hb dX6_bad_10 ?_
    refine lv_iload_n hx hb dX6_bad_13 rfl (lv_at hl 3 rfl) ?_
    refine lv_iconst (v := 1) hx hb dX6_bad_14 (by decide) ?_
    refine lv_bipush (v := 99) hx hb dX6_bad_15 (by decide) ?_
    refine call_i (cS (av := [.int a2, .int 1, .int 99]) (rest := []) B hP hS (c_isWithin l E ρ a2 1 99 1 99 (by decide) (by decide)) lk_RX6_54 rfl rfl hl.1 (Nat.le_of_ble_eq_true rfl) ⟨Nat.le_of_ble_eq_true rfl, Nat.le_of_ble_eq_true rfl⟩ ⟨Nat.le_of_ble_eq_true rfl, Nat.le_of_ble_eq_true rfl⟩ dX6_bad_17) hS (fun r22 ρ23 H locs q24 hP hS => ?_)
    obtain ⟨rfl, q24⟩ := q24
    rcases q24 with ⟨rfl, q24⟩ | ⟨rfl, q24⟩
    · skip
      refine lv_if_ne (tgt := 27) hx hb dX6_bad_20 (by decide) (fun _ => ?_) (fun c25 => absurd c25 (iR_ne (show iR 1 (1) (1) from ⟨by decide, by decide⟩) (show iR 0 (0) (0) from ⟨by decide, by decide⟩) (by decide)))
      refine lv_aload_n hx hb dX6_bad_27 rfl (lv_at hl 0 rfl) ?_
      refine lv_iload_n hx hb dX6_bad_28 rfl (lv_at hl 3 rfl) ?_
      obtain ⟨j26, lj26, uj26, ej26⟩ := iR_nat (a := 1) (b := 99) q24
      refine lv_topi (fun z27 ez27 => ?_)
      obtain rfl : z27 = nI j26 := ez27.trans ej26
      refine call_i (cVt (k := (5 + 1 + 42 * j20)) (av := [.int (nI j26)]) (rest := []) B hP hS (d_X2_badChannels l E ρ r S0 hS0 (5 + 1 + 42 * j20) (lay5n (k := 1) (n := j20) (by decide +kernel) uj20) (nI j26) hI) lk_RX6_203 (hrecv (ci := 2) B hP (hk_lt (c := 2) (lay5n (k := 1) (n := j20) (by decide +kernel) uj20) (by decide)) (hcc2 _ _ (lay5n (k := 1) (n := j20) (by decide +kernel) uj20)) rfl) rfl rfl hl.1 (Nat.le_of_ble_eq_true rfl) ⟨Nat.le_of_ble_eq_true rfl, Nat.le_of_ble_eq_true rfl⟩ ⟨Nat.le_of_ble_eq_true rfl, Nat.le_of_ble_eq_true rfl⟩ dX6_bad_29) hS (fun r28 ρ29 H locs q30 hP hS => ?_)
      obtain ⟨rfl, hI⟩ := q30
      exact ret_i B hr hlk hP hS dX6_bad_32 (⟨rfl, hI⟩)
    · skip
      refine lv_if_ne (tgt := 27) hx hb dX6_bad_20 (by decide) (fun c32 => absurd rfl c32) (fun _ => ?_)
      refine lv_iconst (v := (-1)) hx hb dX6_bad_23 (by decide) ?_
      refine lv_goto (tgt := 32) hx hb dX6_bad_24 (by decide) ?_
      exact ret_i B hr hlk hP hS dX6_bad_32 (⟨rfl, hI⟩)

set_option maxHeartbeats 4000000 in
set_option maxRecDepth 100000 in
theorem d_X6_sent (l : Launch) (E : hE) (ρ r : Nat → Nat → Int32) (a1 : Int32) (a2 : Int32) (a3 : Int32) (hI : CI r S0 ρ) : Met l yX6_sent (.code yX6_sent cX6_sent 5 (some .int) :: gw_all) (rmk 2 80) (cPre E ρ [.ref (E.2.1 + 0), .int a1, .int a2, .int a3]) (cI E (fun v ρ1 => ρ = ρ1 ∧ CI r S0 ρ1)) 0 0 (hA E) := by
  refine ent (own := RX6) (by decide) rfl (Nat.le_of_ble_eq_true rfl) ?_
  intro p e s m below meth c ls B hr hlk hl hP hS
  have hx := B.1.1
  have hb := B.1.2.1
  have hown := B.1.2.2.2.1
  have hts := B.1.2.2.2.2
  have hl : lv_has ls 5 [(0, .ref (E.2.1 + 0)), (1, .int a1), (2, .int a2), (3, .int a3)] := hl
  refine lv_aload_n hx hb dX6_sent_0 rfl (lv_at hl 0 rfl) ?_
  refine get6 B hP (show hk 0 = 6 by decide +kernel) 0 (by decide) mw_412 rfl dX6_sent_1 ?_
  refine lv_iload_n hx hb dX6_sent_4 rfl (lv_at hl 1 rfl) ?_
  refine call_q (cVt (k := 1) (av := [.int a1]) (rest := []) B hP hS (d_X5_netAt l E ρ r S0 hS0 1 (show hk 1 = 5 by decide +kernel) a1 hI) lk_RX6_95 (hrecv (ci := 5) B hP (hk_lt (c := 5) (show hk 1 = 5 by decide +kernel) (by decide)) (hcc5 _ _ (show hk 1 = 5 by decide +kernel)) rfl) rfl rfl hl.1 (Nat.le_of_ble_eq_true rfl) ⟨Nat.le_of_ble_eq_true rfl, Nat.le_of_ble_eq_true rfl⟩ ⟨Nat.le_of_ble_eq_true rfl, Nat.le_of_ble_eq_true rfl⟩ dX6_sent_5) hS (fun r17 ρ18 H locs q19 hP hS => ?_)
  obtain ⟨rfl, hI, q19⟩ := q19
  rcases q19 with rfl | ⟨j20, rfl, ej20, uj20⟩
  · skip
    refine W.eq (g2 := F0 m 8 ls [.null]) rfl ?_
    refine lv_astoreN (lv' := [(4, .null), (0, .ref (E.2.1 + 0)), (1, .int a1), (2, .int a2), (3, .int a3)]) hx hb dX6_sent_8 hl (by decide) rfl (fun ls hl => ?_)
    refine lv_aloadN hx hb dX6_sent_10 (lv_at hl 0 rfl) ?_
    refine lv_ifnullN (tgt := 25) hx hb dX6_sent_12 (by decide) ?_
    refine lv_iconst (v := (-1)) hx hb dX6_sent_25 (by decide) ?_
    exact ret_i B hr hlk hP hS dX6_sent_26 (⟨rfl, hI⟩)
  · skip
    refine W.eq (g2 := F0 m 8 ls [.ref (E.2.1 + (5 + 1 + 42 * j20))]) rfl ?_
    refine lv_astore (lv' := [(4, .ref (E.2.1 + (5 + 1 + 42 * j20))), (0, .ref (E.2.1 + 0)), (1, .int a1), (2, .int a2), (3, .int a3)]) hx hb dX6_sent_8 hl (by decide) rfl (fun ls hl => ?_)
    refine lv_aload hx hb dX6_sent_10 (lv_at hl 0 rfl) ?_
    refine lv_ifnull hx hb dX6_sent_12 ?_
    refine lv_iload_n hx hb dX6_sent_15 rfl (lv_at hl 3 rfl) ?_
    refine lv_iconst (v := 0) hx hb dX6_sent_16 (by decide) ?_
    refine lv_bipush (v := 22) hx hb dX6_sent_17 (by decide) ?_
    refine call_i (cS (av := [.int a2, .int 0, .int 22]) (rest := []) B hP hS (c_isWithin l E ρ a2 0 22 0 22 (by decide) (by decide)) lk_RX6_54 rfl rfl hl.1 (Nat.le_of_ble_eq_true rfl) ⟨Nat.le_of_ble_eq_true rfl, Nat.le_of_ble_eq_true rfl⟩ ⟨Nat.le_of_ble_eq_true rfl, Nat.le_of_ble_eq_true rfl⟩ dX6_sent_19) hS (fun r22 ρ23 H locs q24 hP hS => ?_)
    obtain ⟨rfl, q24⟩ := q24
    rcases q24 with ⟨rfl, q24⟩ | ⟨rfl, q24⟩
    · skip
      refine lv_if_ne (tgt := 27) hx hb dX6_sent_22 (by decide) (fun _ => ?_) (fun c25 => absurd c25 (iR_ne (show iR 1 (1) (1) from ⟨by decide, by decide⟩) (show iR 0 (0) (0) from ⟨by decide, by decide⟩) (by decide)))
      refine lv_iload_n hx hb dX6_sent_27 rfl (lv_at hl 4 rfl) ?_
      rcases Classical.em (a3.toInt = 0) with c26 | c26
      · skip
        refine lv_lookup (off := 28) (tgt := 56) hx hb dX6_sent_28 (by decide) (by rw [c26]; rfl) (by decide) ?_
        refine lv_aload hx hb dX6_sent_56 (lv_at hl 0 rfl) ?_
        refine get2 B hP (lay5n (k := 1) (n := j20) (by decide +kernel) uj20) 2 (by decide) mw_288 rfl dX6_sent_58 ?_
        refine lv_iload_n hx hb dX6_sent_61 rfl (lv_at hl 3 rfl) ?_
        obtain ⟨j27, lj27, uj27, ej27⟩ := iR_nat (a := 0) (b := 22) q24
        refine lv_topi (fun z28 ez28 => ?_)
        obtain rfl : z28 = nI j27 := ez28.trans ej27
        refine aldn (n := 23) (j := j27) B hP (lay2 (lay5n (k := 1) (n := j20) (by decide +kernel) uj20)).2.2.2.1 (lay2 (lay5n (k := 1) (n := j20) (by decide +kernel) uj20)).2.2.2.2.1 rfl (by omega) (by decide) dX6_sent_62 ?_
        exact ret_i B hr hlk hP hS dX6_sent_63 (⟨rfl, hI⟩)
      · skip
        rcases Classical.em (a3.toInt = 1) with c29 | c29
        · skip
          refine lv_lookup (off := 36) (tgt := 64) hx hb dX6_sent_28 (by decide) (by rw [c29]; rfl) (by decide) ?_
          refine lv_aload hx hb dX6_sent_64 (lv_at hl 0 rfl) ?_
          refine get2 B hP (lay5n (k := 1) (n := j20) (by decide +kernel) uj20) 3 (by decide) mw_290 rfl dX6_sent_66 ?_
          refine lv_iload_n hx hb dX6_sent_69 rfl (lv_at hl 3 rfl) ?_
          obtain ⟨j30, lj30, uj30, ej30⟩ := iR_nat (a := 0) (b := 22) q24
          refine lv_topi (fun z31 ez31 => ?_)
          obtain rfl : z31 = nI j30 := ez31.trans ej30
          refine aldn (n := 23) (j := j30) B hP (lay2 (lay5n (k := 1) (n := j20) (by decide +kernel) uj20)).2.2.2.2.2.1 (lay2 (lay5n (k := 1) (n := j20) (by decide +kernel) uj20)).2.2.2.2.2.2.1 rfl (by omega) (by decide) dX6_sent_70 ?_
          exact ret_i B hr hlk hP hS dX6_sent_71 (⟨rfl, hI⟩)
        · skip
          refine lv_lookup (off := 44) (tgt := 72) hx hb dX6_sent_28 (by decide) (by simp only [Op.lookupswitch.offset]; rw [if_neg (fun h => c26 h.symm), if_neg (fun h => c29 h.symm)]) (by decide) ?_
          refine lv_iconst (v := (-1)) hx hb dX6_sent_72 (by decide) ?_
          exact ret_i B hr hlk hP hS dX6_sent_73 (⟨rfl, hI⟩)
    · skip
      refine lv_if_ne (tgt := 27) hx hb dX6_sent_22 (by decide) (fun c32 => absurd rfl c32) (fun _ => ?_)
      refine lv_iconst (v := (-1)) hx hb dX6_sent_25 (by decide) ?_
      exact ret_i B hr hlk hP hS dX6_sent_26 (⟨rfl, hI⟩)

set_option maxHeartbeats 4000000 in
set_option maxRecDepth 100000 in
theorem d_X6_link (l : Launch) (E : hE) (ρ r : Nat → Nat → Int32) (a1 : Int32) (a2 : Int32) (a3 : Int32) (hI : CI r S0 ρ) : Met l yX6_link (.code yX6_link cX6_link 5 (some .int) :: gw_all) (rmk 3 120) (cPre E ρ [.ref (E.2.1 + 0), .int a1, .int a2, .int a3]) (cI E (fun v ρ1 => ρ = ρ1 ∧ CI r S0 ρ1)) 0 0 (hA E) := by
  refine ent (own := RX6) (by decide) rfl (Nat.le_of_ble_eq_true rfl) ?_
  intro p e s m below meth c ls B hr hlk hl hP hS
  have hx := B.1.1
  have hb := B.1.2.1
  have hown := B.1.2.2.2.1
  have hts := B.1.2.2.2.2
  have hl : lv_has ls 5 [(0, .ref (E.2.1 + 0)), (1, .int a1), (2, .int a2), (3, .int a3)] := hl
  refine lv_aload_n hx hb dX6_link_0 rfl (lv_at hl 0 rfl) ?_
  refine get6 B hP (show hk 0 = 6 by decide +kernel) 0 (by decide) mw_412 rfl dX6_link_1 ?_
  refine lv_iload_n hx hb dX6_link_4 rfl (lv_at hl 1 rfl) ?_
  refine lv_iload_n hx hb dX6_link_5 rfl (lv_at hl 2 rfl) ?_
  refine call_q (cVt (k := 1) (av := [.int a1, .int a2]) (rest := []) B hP hS (d_X5_linkAt l E ρ r S0 hS0 1 (show hk 1 = 5 by decide +kernel) a1 a2 hI) lk_RX6_132 (hrecv (ci := 5) B hP (hk_lt (c := 5) (show hk 1 = 5 by decide +kernel) (by decide)) (hcc5 _ _ (show hk 1 = 5 by decide +kernel)) rfl) rfl rfl hl.1 (Nat.le_of_ble_eq_true rfl) ⟨Nat.le_of_ble_eq_true rfl, Nat.le_of_ble_eq_true rfl⟩ ⟨Nat.le_of_ble_eq_true rfl, Nat.le_of_ble_eq_true rfl⟩ dX6_link_6) hS (fun r13 ρ14 H locs q15 hP hS => ?_)
  obtain ⟨rfl, hI, q15⟩ := q15
  rcases q15 with rfl | ⟨j16, k17, rfl, hk17, ej16, uj16⟩
  · skip
    refine W.eq (g2 := F0 m 9 ls [.null]) rfl ?_
    refine lv_astoreN (lv' := [(4, .null), (0, .ref (E.2.1 + 0)), (1, .int a1), (2, .int a2), (3, .int a3)]) hx hb dX6_link_9 hl (by decide) rfl (fun ls hl => ?_)
    refine lv_aloadN hx hb dX6_link_11 (lv_at hl 0 rfl) ?_
    refine lv_ifnonnullN hx hb dX6_link_13 ?_
    refine lv_iconst (v := (-1)) hx hb dX6_link_16 (by decide) ?_
    exact ret_i B hr hlk hP hS dX6_link_17 (⟨rfl, hI⟩)
  · skip
    refine W.eq (g2 := F0 m 9 ls [.ref (E.2.1 + k17)]) rfl ?_
    refine lv_astore (lv' := [(4, .ref (E.2.1 + k17)), (0, .ref (E.2.1 + 0)), (1, .int a1), (2, .int a2), (3, .int a3)]) hx hb dX6_link_9 hl (by decide) rfl (fun ls hl => ?_)
    refine lv_aload hx hb dX6_link_11 (lv_at hl 0 rfl) ?_
    refine lv_ifnonnull (tgt := 18) hx hb dX6_link_13 (by decide) ?_
    refine lv_iload_n hx hb dX6_link_18 rfl (lv_at hl 4 rfl) ?_
    rcases sw_split (x := a3) (lo := 0) (hi := 16) (by decide) with c18 | c18
    · skip
      refine lv_tableOut (tgt := 232) hx hb dX6_link_19 c18 (by decide) ?_
      refine lv_iconst (v := (-1)) hx hb dX6_link_232 (by decide) ?_
      exact ret_i B hr hlk hP hS dX6_link_233 (⟨rfl, hI⟩)
    · skip
      rcases sw_step (x := a3) (n := 0) (n' := 1) (by decide) c18 with c18 | c18
      · skip
        refine lv_tableIn (off := 81) (tgt := 100) hx hb dX6_link_19 (by rw [c18]; decide) (by rw [c18]; decide) (by rw [c18]; decide) (by decide) ?_
        refine lv_aload hx hb dX6_link_100 (lv_at hl 0 rfl) ?_
        refine get1 B hP hk17 4 (by decide) mw_210 rfl dX6_link_102 ?_
        exact ret_i B hr hlk hP hS dX6_link_105 (⟨rfl, hI⟩)
      · skip
        rcases sw_step (x := a3) (n := 1) (n' := 2) (by decide) c18 with c18 | c18
        · skip
          refine lv_tableIn (off := 87) (tgt := 106) hx hb dX6_link_19 (by rw [c18]; decide) (by rw [c18]; decide) (by rw [c18]; decide) (by decide) ?_
          refine lv_aload hx hb dX6_link_106 (lv_at hl 0 rfl) ?_
          refine get1 B hP hk17 1 (by decide) mw_198 rfl dX6_link_108 ?_
          refine get4 B hP (lay1 hk17).2.1 2 (by decide) mw_130 rfl dX6_link_111 ?_
          have i19 : iR (ρ (k17 + 2) 2) 0 8 := CI_get hI (kind_lt (lay1 hk17).2.1 (by decide)) (lay1 hk17).2.1 rfl
          obtain ⟨j20, lj20, uj20, ej20⟩ := iR_nat (a := 0) (b := 8) i19
          refine lv_topi (fun z21 ez21 => ?_)
          obtain rfl : z21 = nI j20 := ez21.trans ej20
          exact ret_i B hr hlk hP hS dX6_link_114 (⟨rfl, hI⟩)
        · skip
          rcases sw_step (x := a3) (n := 2) (n' := 3) (by decide) c18 with c18 | c18
          · skip
            refine lv_tableIn (off := 96) (tgt := 115) hx hb dX6_link_19 (by rw [c18]; decide) (by rw [c18]; decide) (by rw [c18]; decide) (by decide) ?_
            refine lv_aload hx hb dX6_link_115 (lv_at hl 0 rfl) ?_
            refine get1 B hP hk17 2 (by decide) mw_201 rfl dX6_link_117 ?_
            refine get4 B hP (lay1 hk17).2.2.1 2 (by decide) mw_130 rfl dX6_link_120 ?_
            have i22 : iR (ρ (k17 + 5) 2) 0 8 := CI_get hI (kind_lt (lay1 hk17).2.2.1 (by decide)) (lay1 hk17).2.2.1 rfl
            obtain ⟨j23, lj23, uj23, ej23⟩ := iR_nat (a := 0) (b := 8) i22
            refine lv_topi (fun z24 ez24 => ?_)
            obtain rfl : z24 = nI j23 := ez24.trans ej23
            exact ret_i B hr hlk hP hS dX6_link_123 (⟨rfl, hI⟩)
          · skip
            rcases sw_step (x := a3) (n := 3) (n' := 4) (by decide) c18 with c18 | c18
            · skip
              refine lv_tableIn (off := 105) (tgt := 124) hx hb dX6_link_19 (by rw [c18]; decide) (by rw [c18]; decide) (by rw [c18]; decide) (by decide) ?_
              refine lv_aload hx hb dX6_link_124 (lv_at hl 0 rfl) ?_
              refine get1 B hP hk17 1 (by decide) mw_198 rfl dX6_link_126 ?_
              refine get4 B hP (lay1 hk17).2.1 5 (by decide) mw_138 rfl dX6_link_129 ?_
              exact ret_i B hr hlk hP hS dX6_link_132 (⟨rfl, hI⟩)
            · skip
              rcases sw_step (x := a3) (n := 4) (n' := 5) (by decide) c18 with c18 | c18
              · skip
                refine lv_tableIn (off := 114) (tgt := 133) hx hb dX6_link_19 (by rw [c18]; decide) (by rw [c18]; decide) (by rw [c18]; decide) (by decide) ?_
                refine lv_aload hx hb dX6_link_133 (lv_at hl 0 rfl) ?_
                refine get1 B hP hk17 2 (by decide) mw_201 rfl dX6_link_135 ?_
                refine get4 B hP (lay1 hk17).2.2.1 5 (by decide) mw_138 rfl dX6_link_138 ?_
                exact ret_i B hr hlk hP hS dX6_link_141 (⟨rfl, hI⟩)
              · skip
                rcases sw_step (x := a3) (n := 5) (n' := 6) (by decide) c18 with c18 | c18
                · skip
                  refine lv_tableIn (off := 123) (tgt := 142) hx hb dX6_link_19 (by rw [c18]; decide) (by rw [c18]; decide) (by rw [c18]; decide) (by decide) ?_
                  refine lv_aload hx hb dX6_link_142 (lv_at hl 0 rfl) ?_
                  refine get1 B hP hk17 15 (by decide) mw_238 rfl dX6_link_144 ?_
                  exact ret_i B hr hlk hP hS dX6_link_147 (⟨rfl, hI⟩)
                · skip
                  rcases sw_step (x := a3) (n := 6) (n' := 7) (by decide) c18 with c18 | c18
                  · skip
                    refine lv_tableIn (off := 129) (tgt := 148) hx hb dX6_link_19 (by rw [c18]; decide) (by rw [c18]; decide) (by rw [c18]; decide) (by decide) ?_
                    refine lv_aload hx hb dX6_link_148 (lv_at hl 0 rfl) ?_
                    refine get1 B hP hk17 1 (by decide) mw_198 rfl dX6_link_150 ?_
                    refine get4 B hP (lay1 hk17).2.1 3 (by decide) mw_133 rfl dX6_link_153 ?_
                    exact ret_i B hr hlk hP hS dX6_link_156 (⟨rfl, hI⟩)
                  · skip
                    rcases sw_step (x := a3) (n := 7) (n' := 8) (by decide) c18 with c18 | c18
                    · skip
                      refine lv_tableIn (off := 138) (tgt := 157) hx hb dX6_link_19 (by rw [c18]; decide) (by rw [c18]; decide) (by rw [c18]; decide) (by decide) ?_
                      refine lv_aload hx hb dX6_link_157 (lv_at hl 0 rfl) ?_
                      refine get1 B hP hk17 1 (by decide) mw_198 rfl dX6_link_159 ?_
                      refine get4 B hP (lay1 hk17).2.1 4 (by decide) mw_135 rfl dX6_link_162 ?_
                      exact ret_i B hr hlk hP hS dX6_link_165 (⟨rfl, hI⟩)
                    · skip
                      rcases sw_step (x := a3) (n := 8) (n' := 9) (by decide) c18 with c18 | c18
                      · skip
                        refine lv_tableIn (off := 147) (tgt := 166) hx hb dX6_link_19 (by rw [c18]; decide) (by rw [c18]; decide) (by rw [c18]; decide) (by decide) ?_
                        refine lv_aload hx hb dX6_link_166 (lv_at hl 0 rfl) ?_
                        refine get1 B hP hk17 2 (by decide) mw_201 rfl dX6_link_168 ?_
                        refine get4 B hP (lay1 hk17).2.2.1 3 (by decide) mw_133 rfl dX6_link_171 ?_
                        exact ret_i B hr hlk hP hS dX6_link_174 (⟨rfl, hI⟩)
                      · skip
                        rcases sw_step (x := a3) (n := 9) (n' := 10) (by decide) c18 with c18 | c18
                        · skip
                          refine lv_tableIn (off := 156) (tgt := 175) hx hb dX6_link_19 (by rw [c18]; decide) (by rw [c18]; decide) (by rw [c18]; decide) (by decide) ?_
                          refine lv_aload hx hb dX6_link_175 (lv_at hl 0 rfl) ?_
                          refine get1 B hP hk17 2 (by decide) mw_201 rfl dX6_link_177 ?_
                          refine get4 B hP (lay1 hk17).2.2.1 4 (by decide) mw_135 rfl dX6_link_180 ?_
                          exact ret_i B hr hlk hP hS dX6_link_183 (⟨rfl, hI⟩)
                        · skip
                          rcases sw_step (x := a3) (n := 10) (n' := 11) (by decide) c18 with c18 | c18
                          · skip
                            refine lv_tableIn (off := 165) (tgt := 184) hx hb dX6_link_19 (by rw [c18]; decide) (by rw [c18]; decide) (by rw [c18]; decide) (by decide) ?_
                            refine lv_aload hx hb dX6_link_184 (lv_at hl 0 rfl) ?_
                            refine get1 B hP hk17 13 (by decide) mw_232 rfl dX6_link_186 ?_
                            exact ret_i B hr hlk hP hS dX6_link_189 (⟨rfl, hI⟩)
                          · skip
                            rcases sw_step (x := a3) (n := 11) (n' := 12) (by decide) c18 with c18 | c18
                            · skip
                              refine lv_tableIn (off := 171) (tgt := 190) hx hb dX6_link_19 (by rw [c18]; decide) (by rw [c18]; decide) (by rw [c18]; decide) (by decide) ?_
                              refine lv_aload hx hb dX6_link_190 (lv_at hl 0 rfl) ?_
                              refine get1 B hP hk17 14 (by decide) mw_235 rfl dX6_link_192 ?_
                              exact ret_i B hr hlk hP hS dX6_link_195 (⟨rfl, hI⟩)
                            · skip
                              rcases sw_step (x := a3) (n := 12) (n' := 13) (by decide) c18 with c18 | c18
                              · skip
                                refine lv_tableIn (off := 177) (tgt := 196) hx hb dX6_link_19 (by rw [c18]; decide) (by rw [c18]; decide) (by rw [c18]; decide) (by decide) ?_
                                refine lv_aload hx hb dX6_link_196 (lv_at hl 0 rfl) ?_
                                refine get1 B hP hk17 11 (by decide) mw_227 rfl dX6_link_198 ?_
                                exact ret_i B hr hlk hP hS dX6_link_201 (⟨rfl, hI⟩)
                              · skip
                                rcases sw_step (x := a3) (n := 13) (n' := 14) (by decide) c18 with c18 | c18
                                · skip
                                  refine lv_tableIn (off := 183) (tgt := 202) hx hb dX6_link_19 (by rw [c18]; decide) (by rw [c18]; decide) (by rw [c18]; decide) (by decide) ?_
                                  refine lv_aload hx hb dX6_link_202 (lv_at hl 0 rfl) ?_
                                  refine get1 B hP hk17 10 (by decide) mw_225 rfl dX6_link_204 ?_
                                  exact ret_i B hr hlk hP hS dX6_link_207 (⟨rfl, hI⟩)
                                · skip
                                  rcases sw_step (x := a3) (n := 14) (n' := 15) (by decide) c18 with c18 | c18
                                  · skip
                                    refine lv_tableIn (off := 189) (tgt := 208) hx hb dX6_link_19 (by rw [c18]; decide) (by rw [c18]; decide) (by rw [c18]; decide) (by decide) ?_
                                    refine lv_aload hx hb dX6_link_208 (lv_at hl 0 rfl) ?_
                                    refine get1 B hP hk17 1 (by decide) mw_198 rfl dX6_link_210 ?_
                                    refine get4 B hP (lay1 hk17).2.1 7 (by decide) mw_142 rfl dX6_link_213 ?_
                                    exact ret_i B hr hlk hP hS dX6_link_216 (⟨rfl, hI⟩)
                                  · skip
                                    rcases sw_step (x := a3) (n := 15) (n' := 16) (by decide) c18 with c18 | c18
                                    · skip
                                      refine lv_tableIn (off := 198) (tgt := 217) hx hb dX6_link_19 (by rw [c18]; decide) (by rw [c18]; decide) (by rw [c18]; decide) (by decide) ?_
                                      refine lv_aload hx hb dX6_link_217 (lv_at hl 0 rfl) ?_
                                      refine get1 B hP hk17 2 (by decide) mw_201 rfl dX6_link_219 ?_
                                      refine get4 B hP (lay1 hk17).2.2.1 7 (by decide) mw_142 rfl dX6_link_222 ?_
                                      exact ret_i B hr hlk hP hS dX6_link_225 (⟨rfl, hI⟩)
                                    · skip
                                      have c18 := sw_last (n := 16) c18
                                      refine lv_tableIn (off := 207) (tgt := 226) hx hb dX6_link_19 (by rw [c18]; decide) (by rw [c18]; decide) (by rw [c18]; decide) (by decide) ?_
                                      refine lv_aload hx hb dX6_link_226 (lv_at hl 0 rfl) ?_
                                      refine get1 B hP hk17 9 (by decide) mw_222 rfl dX6_link_228 ?_
                                      exact ret_i B hr hlk hP hS dX6_link_231 (⟨rfl, hI⟩)

set_option maxHeartbeats 4000000 in
set_option maxRecDepth 100000 in
theorem d_X6_hash (l : Launch) (E : hE) (ρ r : Nat → Nat → Int32) (a1 : Int32) (a2 : Int32) (a3 : Int32) (hI : CI r S0 ρ) : Met l yX6_hash (.code yX6_hash cX6_hash 5 (some .int) :: gw_all) (rmk 3 120) (cPre E ρ [.ref (E.2.1 + 0), .int a1, .int a2, .int a3]) (cI E (fun v ρ1 => ρ = ρ1 ∧ CI r S0 ρ1)) 0 0 (hA E) := by
  refine ent (own := RX6) (by decide) rfl (Nat.le_of_ble_eq_true rfl) ?_
  intro p e s m below meth c ls B hr hlk hl hP hS
  have hx := B.1.1
  have hb := B.1.2.1
  have hown := B.1.2.2.2.1
  have hts := B.1.2.2.2.2
  have hl : lv_has ls 5 [(0, .ref (E.2.1 + 0)), (1, .int a1), (2, .int a2), (3, .int a3)] := hl
  refine lv_aload_n hx hb dX6_hash_0 rfl (lv_at hl 0 rfl) ?_
  refine get6 B hP (show hk 0 = 6 by decide +kernel) 0 (by decide) mw_412 rfl dX6_hash_1 ?_
  refine lv_iload_n hx hb dX6_hash_4 rfl (lv_at hl 1 rfl) ?_
  refine lv_iload_n hx hb dX6_hash_5 rfl (lv_at hl 2 rfl) ?_
  refine call_q (cVt (k := 1) (av := [.int a1, .int a2]) (rest := []) B hP hS (d_X5_linkAt l E ρ r S0 hS0 1 (show hk 1 = 5 by decide +kernel) a1 a2 hI) lk_RX6_132 (hrecv (ci := 5) B hP (hk_lt (c := 5) (show hk 1 = 5 by decide +kernel) (by decide)) (hcc5 _ _ (show hk 1 = 5 by decide +kernel)) rfl) rfl rfl hl.1 (Nat.le_of_ble_eq_true rfl) ⟨Nat.le_of_ble_eq_true rfl, Nat.le_of_ble_eq_true rfl⟩ ⟨Nat.le_of_ble_eq_true rfl, Nat.le_of_ble_eq_true rfl⟩ dX6_hash_6) hS (fun r7 ρ8 H locs q9 hP hS => ?_)
  obtain ⟨rfl, hI, q9⟩ := q9
  rcases q9 with rfl | ⟨j10, k11, rfl, hk11, ej10, uj10⟩
  · skip
    refine W.eq (g2 := F0 m 9 ls [.null]) rfl ?_
    refine lv_astoreN (lv' := [(4, .null), (0, .ref (E.2.1 + 0)), (1, .int a1), (2, .int a2), (3, .int a3)]) hx hb dX6_hash_9 hl (by decide) rfl (fun ls hl => ?_)
    refine lv_aloadN hx hb dX6_hash_11 (lv_at hl 0 rfl) ?_
    refine lv_ifnonnullN hx hb dX6_hash_13 ?_
    refine lv_iconst (v := 0) hx hb dX6_hash_16 (by decide) ?_
    exact ret_i B hr hlk hP hS dX6_hash_17 (⟨rfl, hI⟩)
  · skip
    refine W.eq (g2 := F0 m 9 ls [.ref (E.2.1 + k11)]) rfl ?_
    refine lv_astore (lv' := [(4, .ref (E.2.1 + k11)), (0, .ref (E.2.1 + 0)), (1, .int a1), (2, .int a2), (3, .int a3)]) hx hb dX6_hash_9 hl (by decide) rfl (fun ls hl => ?_)
    refine lv_aload hx hb dX6_hash_11 (lv_at hl 0 rfl) ?_
    refine lv_ifnonnull (tgt := 18) hx hb dX6_hash_13 (by decide) ?_
    refine lv_iload_n hx hb dX6_hash_18 rfl (lv_at hl 4 rfl) ?_
    rcases sw_split (x := a3) (lo := 0) (hi := 2) (by decide) with c12 | c12
    · skip
      refine lv_tableOut (tgt := 68) hx hb dX6_hash_19 c12 (by decide) ?_
      refine lv_iconst (v := 0) hx hb dX6_hash_68 (by decide) ?_
      exact ret_i B hr hlk hP hS dX6_hash_69 (⟨rfl, hI⟩)
    · skip
      rcases sw_step (x := a3) (n := 0) (n' := 1) (by decide) c12 with c12 | c12
      · skip
        refine lv_tableIn (off := 25) (tgt := 44) hx hb dX6_hash_19 (by rw [c12]; decide) (by rw [c12]; decide) (by rw [c12]; decide) (by decide) ?_
        refine lv_aload hx hb dX6_hash_44 (lv_at hl 0 rfl) ?_
        refine get1 B hP hk11 1 (by decide) mw_198 rfl dX6_hash_46 ?_
        refine get4 B hP (lay1 hk11).2.1 6 (by decide) mw_140 rfl dX6_hash_49 ?_
        exact ret_i B hr hlk hP hS dX6_hash_52 (⟨rfl, hI⟩)
      · skip
        rcases sw_step (x := a3) (n := 1) (n' := 2) (by decide) c12 with c12 | c12
        · skip
          refine lv_tableIn (off := 34) (tgt := 53) hx hb dX6_hash_19 (by rw [c12]; decide) (by rw [c12]; decide) (by rw [c12]; decide) (by decide) ?_
          refine lv_aload hx hb dX6_hash_53 (lv_at hl 0 rfl) ?_
          refine get1 B hP hk11 2 (by decide) mw_201 rfl dX6_hash_55 ?_
          refine get4 B hP (lay1 hk11).2.2.1 6 (by decide) mw_140 rfl dX6_hash_58 ?_
          exact ret_i B hr hlk hP hS dX6_hash_61 (⟨rfl, hI⟩)
        · skip
          have c12 := sw_last (n := 2) c12
          refine lv_tableIn (off := 43) (tgt := 62) hx hb dX6_hash_19 (by rw [c12]; decide) (by rw [c12]; decide) (by rw [c12]; decide) (by decide) ?_
          refine lv_aload hx hb dX6_hash_62 (lv_at hl 0 rfl) ?_
          refine get1 B hP hk11 12 (by decide) mw_229 rfl dX6_hash_64 ?_
          exact ret_i B hr hlk hP hS dX6_hash_67 (⟨rfl, hI⟩)

set_option maxHeartbeats 4000000 in
set_option maxRecDepth 100000 in
theorem d_X6_reserved (l : Launch) (E : hE) (ρ r : Nat → Nat → Int32) (a1 : Int32) (a2 : Int32) (a3 : Int32) (hI : CI r S0 ρ) : Met l yX6_reserved (.code yX6_reserved cX6_reserved 5 (some .int) :: gw_all) (rmk 3 120) (cPre E ρ [.ref (E.2.1 + 0), .int a1, .int a2, .int a3]) (cI E (fun v ρ1 => ρ = ρ1 ∧ CI r S0 ρ1)) 0 0 (hA E) := by
  refine ent (own := RX6) (by decide) rfl (Nat.le_of_ble_eq_true rfl) ?_
  intro p e s m below meth c ls B hr hlk hl hP hS
  have hx := B.1.1
  have hb := B.1.2.1
  have hown := B.1.2.2.2.1
  have hts := B.1.2.2.2.2
  have hl : lv_has ls 5 [(0, .ref (E.2.1 + 0)), (1, .int a1), (2, .int a2), (3, .int a3)] := hl
  refine lv_aload_n hx hb dX6_reserved_0 rfl (lv_at hl 0 rfl) ?_
  refine get6 B hP (show hk 0 = 6 by decide +kernel) 0 (by decide) mw_412 rfl dX6_reserved_1 ?_
  refine lv_iload_n hx hb dX6_reserved_4 rfl (lv_at hl 1 rfl) ?_
  refine lv_iload_n hx hb dX6_reserved_5 rfl (lv_at hl 2 rfl) ?_
  refine call_q (cVt (k := 1) (av := [.int a1, .int a2]) (rest := []) B hP hS (d_X5_linkAt l E ρ r S0 hS0 1 (show hk 1 = 5 by decide +kernel) a1 a2 hI) lk_RX6_132 (hrecv (ci := 5) B hP (hk_lt (c := 5) (show hk 1 = 5 by decide +kernel) (by decide)) (hcc5 _ _ (show hk 1 = 5 by decide +kernel)) rfl) rfl rfl hl.1 (Nat.le_of_ble_eq_true rfl) ⟨Nat.le_of_ble_eq_true rfl, Nat.le_of_ble_eq_true rfl⟩ ⟨Nat.le_of_ble_eq_true rfl, Nat.le_of_ble_eq_true rfl⟩ dX6_reserved_6) hS (fun r9 ρ10 H locs q11 hP hS => ?_)
  obtain ⟨rfl, hI, q11⟩ := q11
  rcases q11 with rfl | ⟨j12, k13, rfl, hk13, ej12, uj12⟩
  · skip
    refine W.eq (g2 := F0 m 9 ls [.null]) rfl ?_
    refine lv_astoreN (lv' := [(4, .null), (0, .ref (E.2.1 + 0)), (1, .int a1), (2, .int a2), (3, .int a3)]) hx hb dX6_reserved_9 hl (by decide) rfl (fun ls hl => ?_)
    refine lv_aloadN hx hb dX6_reserved_11 (lv_at hl 0 rfl) ?_
    refine lv_ifnullN (tgt := 27) hx hb dX6_reserved_13 (by decide) ?_
    refine lv_iconst (v := (-1)) hx hb dX6_reserved_27 (by decide) ?_
    exact ret_i B hr hlk hP hS dX6_reserved_28 (⟨rfl, hI⟩)
  · skip
    refine W.eq (g2 := F0 m 9 ls [.ref (E.2.1 + k13)]) rfl ?_
    refine lv_astore (lv' := [(4, .ref (E.2.1 + k13)), (0, .ref (E.2.1 + 0)), (1, .int a1), (2, .int a2), (3, .int a3)]) hx hb dX6_reserved_9 hl (by decide) rfl (fun ls hl => ?_)
    refine lv_aload hx hb dX6_reserved_11 (lv_at hl 0 rfl) ?_
    refine lv_ifnull hx hb dX6_reserved_13 ?_
    refine lv_aload hx hb dX6_reserved_16 (lv_at hl 0 rfl) ?_
    refine get1 B hP hk13 3 (by decide) mw_204 rfl dX6_reserved_18 ?_
    refine get0 B hP (lay1 hk13).2.2.2 0 (by decide) mw_167 rfl dX6_reserved_21 ?_
    refine lv_if_ne (tgt := 29) hx hb dX6_reserved_24 (by decide) (fun c14 => ?_) (fun c14 => ?_)
    · skip
      refine lv_iload_n hx hb dX6_reserved_29 rfl (lv_at hl 4 rfl) ?_
      rcases sw_split (x := a3) (lo := 0) (hi := 5) (by decide) with c15 | c15
      · skip
        refine lv_tableOut (tgt := 122) hx hb dX6_reserved_30 c15 (by decide) ?_
        refine lv_iconst (v := (-1)) hx hb dX6_reserved_122 (by decide) ?_
        exact ret_i B hr hlk hP hS dX6_reserved_123 (⟨rfl, hI⟩)
      · skip
        rcases sw_step (x := a3) (n := 0) (n' := 1) (by decide) c15 with c15 | c15
        · skip
          refine lv_tableIn (off := 38) (tgt := 68) hx hb dX6_reserved_30 (by rw [c15]; decide) (by rw [c15]; decide) (by rw [c15]; decide) (by decide) ?_
          refine lv_aload hx hb dX6_reserved_68 (lv_at hl 0 rfl) ?_
          refine get1 B hP hk13 3 (by decide) mw_204 rfl dX6_reserved_70 ?_
          refine get0 B hP (lay1 hk13).2.2.2 0 (by decide) mw_167 (v := .int (ρ (k13 + 8) 0)) (show some (Value.int (ρ (k13 + 8) 0)) = some (Value.int (ρ (k13 + 8) 0)) from congrArg (fun z => some (Value.int z)) rfl) dX6_reserved_73 ?_
          exact ret_i B hr hlk hP hS dX6_reserved_76 (⟨rfl, hI⟩)
        · skip
          rcases sw_step (x := a3) (n := 1) (n' := 2) (by decide) c15 with c15 | c15
          · skip
            refine lv_tableIn (off := 47) (tgt := 77) hx hb dX6_reserved_30 (by rw [c15]; decide) (by rw [c15]; decide) (by rw [c15]; decide) (by decide) ?_
            refine lv_aload hx hb dX6_reserved_77 (lv_at hl 0 rfl) ?_
            refine get1 B hP hk13 3 (by decide) mw_204 rfl dX6_reserved_79 ?_
            refine get0 B hP (lay1 hk13).2.2.2 1 (by decide) mw_169 rfl dX6_reserved_82 ?_
            exact ret_i B hr hlk hP hS dX6_reserved_85 (⟨rfl, hI⟩)
          · skip
            rcases sw_step (x := a3) (n := 2) (n' := 3) (by decide) c15 with c15 | c15
            · skip
              refine lv_tableIn (off := 56) (tgt := 86) hx hb dX6_reserved_30 (by rw [c15]; decide) (by rw [c15]; decide) (by rw [c15]; decide) (by decide) ?_
              refine lv_aload hx hb dX6_reserved_86 (lv_at hl 0 rfl) ?_
              refine get1 B hP hk13 3 (by decide) mw_204 rfl dX6_reserved_88 ?_
              refine get0 B hP (lay1 hk13).2.2.2 2 (by decide) mw_171 rfl dX6_reserved_91 ?_
              exact ret_i B hr hlk hP hS dX6_reserved_94 (⟨rfl, hI⟩)
            · skip
              rcases sw_step (x := a3) (n := 3) (n' := 4) (by decide) c15 with c15 | c15
              · skip
                refine lv_tableIn (off := 65) (tgt := 95) hx hb dX6_reserved_30 (by rw [c15]; decide) (by rw [c15]; decide) (by rw [c15]; decide) (by decide) ?_
                refine lv_aload hx hb dX6_reserved_95 (lv_at hl 0 rfl) ?_
                refine get1 B hP hk13 3 (by decide) mw_204 rfl dX6_reserved_97 ?_
                refine get0 B hP (lay1 hk13).2.2.2 3 (by decide) mw_173 rfl dX6_reserved_100 ?_
                exact ret_i B hr hlk hP hS dX6_reserved_103 (⟨rfl, hI⟩)
              · skip
                rcases sw_step (x := a3) (n := 4) (n' := 5) (by decide) c15 with c15 | c15
                · skip
                  refine lv_tableIn (off := 74) (tgt := 104) hx hb dX6_reserved_30 (by rw [c15]; decide) (by rw [c15]; decide) (by rw [c15]; decide) (by decide) ?_
                  refine lv_aload hx hb dX6_reserved_104 (lv_at hl 0 rfl) ?_
                  refine get1 B hP hk13 3 (by decide) mw_204 rfl dX6_reserved_106 ?_
                  refine get0 B hP (lay1 hk13).2.2.2 4 (by decide) mw_176 rfl dX6_reserved_109 ?_
                  exact ret_i B hr hlk hP hS dX6_reserved_112 (⟨rfl, hI⟩)
                · skip
                  have c15 := sw_last (n := 5) c15
                  refine lv_tableIn (off := 83) (tgt := 113) hx hb dX6_reserved_30 (by rw [c15]; decide) (by rw [c15]; decide) (by rw [c15]; decide) (by decide) ?_
                  refine lv_aload hx hb dX6_reserved_113 (lv_at hl 0 rfl) ?_
                  refine get1 B hP hk13 3 (by decide) mw_204 rfl dX6_reserved_115 ?_
                  refine get0 B hP (lay1 hk13).2.2.2 5 (by decide) mw_179 rfl dX6_reserved_118 ?_
                  exact ret_i B hr hlk hP hS dX6_reserved_121 (⟨rfl, hI⟩)
    · skip
      have i16 : iR (ρ (k13 + 8) 0) (0) (0) := (by rw [c14]; exact ⟨by decide, by decide⟩)
      refine lv_iconst (v := (-1)) hx hb dX6_reserved_27 (by decide) ?_
      exact ret_i B hr hlk hP hS dX6_reserved_28 (⟨rfl, hI⟩)

theorem lk_RX6_322 : LkV RX6 322 RX5 yX5_isPresent cX5_isPresent 4 (some .boolean) 3 := ⟨⟨mw_920, mw_691, mw_692, mw_53, mw_693⟩, by decide +kernel⟩
set_option maxHeartbeats 4000000 in
set_option maxRecDepth 100000 in
theorem d_X6_isThere (l : Launch) (E : hE) (ρ r : Nat → Nat → Int32) (a1 : Int32) (a2 : Int32) (a3 : Int32) (hI : CI r S0 ρ) : Met l yX6_isThere (.code yX6_isThere cX6_isThere 5 (some .int) :: gw_all) (rmk 3 120) (cPre E ρ [.ref (E.2.1 + 0), .int a1, .int a2, .int a3]) (cI E (fun v ρ1 => ρ = ρ1 ∧ CI r S0 ρ1)) 0 0 (hA E) := by
  refine ent (own := RX6) (by decide) rfl (Nat.le_of_ble_eq_true rfl) ?_
  intro p e s m below meth c ls B hr hlk hl hP hS
  have hx := B.1.1
  have hb := B.1.2.1
  have hown := B.1.2.2.2.1
  have hts := B.1.2.2.2.2
  have hl : lv_has ls 5 [(0, .ref (E.2.1 + 0)), (1, .int a1), (2, .int a2), (3, .int a3)] := hl
  have b24_0 : ∀ (ls : Array Slot) (H : Heap) (locs : List Loc) , lv_has ls 5 [(0, .ref (E.2.1 + 0)), (1, .int a1), (2, .int a2), (3, .int a3)] → WP E ρ H → va_S (hA E) s.heap H locs → W p l e (rmk 3 120) s m ([.ref (E.2.1 + 0), .int a1, .int a2, .int a3] : List Value).toArray below meth c H locs 0 0 (MQ below (cI E (fun v ρ1 => ρ = ρ1 ∧ CI r S0 ρ1)) ([.ref (E.2.1 + 0), .int a1, .int a2, .int a3] : List Value).toArray s 0 0 (hA E)) (F0 m 24 ls [.int 0]) := by
    intro ls H locs  hl hP hS
    refine lv_istore (lv' := [(4, .int 0), (0, .ref (E.2.1 + 0)), (1, .int a1), (2, .int a2), (3, .int a3)]) hx hb dX6_isThere_24 hl (by decide) rfl (fun ls hl => ?_)
    refine lv_iload hx hb dX6_isThere_26 (lv_at hl 0 rfl) ?_
    refine lv_if_eq (tgt := 42) hx hb dX6_isThere_28 (by decide) (fun _ => ?_) (fun c34 => absurd rfl c34)
    refine lv_iconst (v := (-1)) hx hb dX6_isThere_42 (by decide) ?_
    exact ret_i B hr hlk hP hS dX6_isThere_43 (⟨rfl, hI⟩)
  have b24_1 : ∀ (ls : Array Slot) (H : Heap) (locs : List Loc) , lv_has ls 5 [(0, .ref (E.2.1 + 0)), (1, .int a1), (2, .int a2), (3, .int a3)] → WP E ρ H → va_S (hA E) s.heap H locs → iR a2 (0) (1) → iR a3 (0) (199999) → W p l e (rmk 3 120) s m ([.ref (E.2.1 + 0), .int a1, .int a2, .int a3] : List Value).toArray below meth c H locs 0 0 (MQ below (cI E (fun v ρ1 => ρ = ρ1 ∧ CI r S0 ρ1)) ([.ref (E.2.1 + 0), .int a1, .int a2, .int a3] : List Value).toArray s 0 0 (hA E)) (F0 m 24 ls [.int 1]) := by
    intro ls H locs  hl hP hS fa2 fa3
    refine lv_istore (lv' := [(4, .int 1), (0, .ref (E.2.1 + 0)), (1, .int a1), (2, .int a2), (3, .int a3)]) hx hb dX6_isThere_24 hl (by decide) rfl (fun ls hl => ?_)
    refine lv_iload hx hb dX6_isThere_26 (lv_at hl 0 rfl) ?_
    refine lv_if_eq (tgt := 42) hx hb dX6_isThere_28 (by decide) (fun c35 => absurd c35 (iR_ne (show iR 1 (1) (1) from ⟨by decide, by decide⟩) (show iR 0 (0) (0) from ⟨by decide, by decide⟩) (by decide))) (fun _ => ?_)
    refine lv_aload_n hx hb dX6_isThere_31 rfl (lv_at hl 1 rfl) ?_
    refine get6 B hP (show hk 0 = 6 by decide +kernel) 0 (by decide) mw_412 rfl dX6_isThere_32 ?_
    refine lv_iload_n hx hb dX6_isThere_35 rfl (lv_at hl 2 rfl) ?_
    refine call_i (cVt (k := 1) (av := [.int a1]) (rest := []) B hP hS (d_X5_hasRadio l E ρ r S0 hS0 1 (show hk 1 = 5 by decide +kernel) a1 hI) lk_RX6_76 (hrecv (ci := 5) B hP (hk_lt (c := 5) (show hk 1 = 5 by decide +kernel) (by decide)) (hcc5 _ _ (show hk 1 = 5 by decide +kernel)) rfl) rfl rfl hl.1 (Nat.le_of_ble_eq_true rfl) ⟨Nat.le_of_ble_eq_true rfl, Nat.le_of_ble_eq_true rfl⟩ ⟨Nat.le_of_ble_eq_true rfl, Nat.le_of_ble_eq_true rfl⟩ dX6_isThere_36) hS (fun r36 ρ37 H locs q38 hP hS => ?_)
    obtain ⟨rfl, hI, q38⟩ := q38
    rcases q38 with rfl | ⟨rfl, q38⟩
    · skip
      refine lv_if_ne (tgt := 44) hx hb dX6_isThere_39 (by decide) (fun c39 => absurd rfl c39) (fun _ => ?_)
      refine lv_iconst (v := (-1)) hx hb dX6_isThere_42 (by decide) ?_
      exact ret_i B hr hlk hP hS dX6_isThere_43 (⟨rfl, hI⟩)
    · skip
      refine lv_if_ne (tgt := 44) hx hb dX6_isThere_39 (by decide) (fun _ => ?_) (fun c40 => absurd c40 (iR_ne (show iR 1 (1) (1) from ⟨by decide, by decide⟩) (show iR 0 (0) (0) from ⟨by decide, by decide⟩) (by decide)))
      refine lv_aload_n hx hb dX6_isThere_44 rfl (lv_at hl 1 rfl) ?_
      refine get6 B hP (show hk 0 = 6 by decide +kernel) 0 (by decide) mw_412 rfl dX6_isThere_45 ?_
      refine lv_iload_n hx hb dX6_isThere_48 rfl (lv_at hl 2 rfl) ?_
      obtain ⟨j41, lj41, uj41, ej41⟩ := iR_nat (a := 0) (b := 5) q38
      refine lv_topi (fun z42 ez42 => ?_)
      obtain rfl : z42 = nI j41 := ez42.trans ej41
      refine lv_iload_n hx hb dX6_isThere_49 rfl (lv_at hl 3 rfl) ?_
      obtain ⟨j43, lj43, uj43, ej43⟩ := iR_nat (a := 0) (b := 1) fa2
      refine lv_topi (fun z44 ez44 => ?_)
      obtain rfl : z44 = nI j43 := ez44.trans ej43
      refine lv_iload_n hx hb dX6_isThere_50 rfl (lv_at hl 4 rfl) ?_
      obtain ⟨j45, lj45, uj45, ej45⟩ := iR_nat (a := 0) (b := 199999) fa3
      refine lv_topi (fun z46 ez46 => ?_)
      obtain rfl : z46 = nI j45 := ez46.trans ej45
      refine call_i (cVt (k := 1) (av := [.int (nI j41), .int (nI j43), .int (nI j45)]) (rest := []) B hP hS (d_X5_isPresent l E ρ r S0 hS0 1 (show hk 1 = 5 by decide +kernel) (nI j41) j43 (by omega) (by omega) (nI j45) hI) lk_RX6_322 (hrecv (ci := 5) B hP (hk_lt (c := 5) (show hk 1 = 5 by decide +kernel) (by decide)) (hcc5 _ _ (show hk 1 = 5 by decide +kernel)) rfl) rfl rfl hl.1 (Nat.le_of_ble_eq_true rfl) ⟨Nat.le_of_ble_eq_true rfl, Nat.le_of_ble_eq_true rfl⟩ ⟨Nat.le_of_ble_eq_true rfl, Nat.le_of_ble_eq_true rfl⟩ dX6_isThere_51) hS (fun r47 ρ48 H locs q49 hP hS => ?_)
      obtain ⟨rfl, hI, i50⟩ := q49
      obtain ⟨j51, lj51, uj51, ej51⟩ := iR_nat (a := 0) (b := 1) i50
      refine lv_topi (fun z52 ez52 => ?_)
      obtain rfl : z52 = nI j51 := ez52.trans ej51
      refine call_i (cS (av := [.int (nI j51)]) (rest := []) B hP hS (d_X6_bit l E ρ r S0 hS0 (nI j51) (iR_w (a := 0) (b := 1) (nI_iR (j := j51) (a := 0) (b := 1) (by omega) (by omega) (by omega)) (by decide) (by decide)) hI) lk_RX6_242 rfl rfl hl.1 (Nat.le_of_ble_eq_true rfl) ⟨Nat.le_of_ble_eq_true rfl, Nat.le_of_ble_eq_true rfl⟩ ⟨Nat.le_of_ble_eq_true rfl, Nat.le_of_ble_eq_true rfl⟩ dX6_isThere_54) hS (fun r53 ρ54 H locs q55 hP hS => ?_)
      obtain ⟨rfl, hI⟩ := q55
      exact ret_i B hr hlk hP hS dX6_isThere_57 (⟨rfl, hI⟩)
  have b23_0 : ∀ (ls : Array Slot) (H : Heap) (locs : List Loc) , lv_has ls 5 [(0, .ref (E.2.1 + 0)), (1, .int a1), (2, .int a2), (3, .int a3)] → WP E ρ H → va_S (hA E) s.heap H locs → W p l e (rmk 3 120) s m ([.ref (E.2.1 + 0), .int a1, .int a2, .int a3] : List Value).toArray below meth c H locs 0 0 (MQ below (cI E (fun v ρ1 => ρ = ρ1 ∧ CI r S0 ρ1)) ([.ref (E.2.1 + 0), .int a1, .int a2, .int a3] : List Value).toArray s 0 0 (hA E)) (F0 m 23 ls []) := by
    intro ls H locs  hl hP hS
    refine lv_iconst (v := 0) hx hb dX6_isThere_23 (by decide) ?_
    exact b24_0 ls _ _  (lv_sub hl [0, 1, 2, 3] rfl) hP hS 
  refine lv_iload_n hx hb dX6_isThere_0 rfl (lv_at hl 2 rfl) ?_
  refine lv_iconst (v := 0) hx hb dX6_isThere_1 (by decide) ?_
  refine lv_iconst (v := 1) hx hb dX6_isThere_2 (by decide) ?_
  refine call_i (cS (av := [.int a2, .int 0, .int 1]) (rest := []) B hP hS (c_isWithin l E ρ a2 0 1 0 1 (by decide) (by decide)) lk_RX6_54 rfl rfl hl.1 (Nat.le_of_ble_eq_true rfl) ⟨Nat.le_of_ble_eq_true rfl, Nat.le_of_ble_eq_true rfl⟩ ⟨Nat.le_of_ble_eq_true rfl, Nat.le_of_ble_eq_true rfl⟩ dX6_isThere_3) hS (fun r57 ρ58 H locs q59 hP hS => ?_)
  obtain ⟨rfl, q59⟩ := q59
  rcases q59 with ⟨rfl, q59⟩ | ⟨rfl, q59⟩
  · skip
    refine lv_if_eq (tgt := 23) hx hb dX6_isThere_6 (by decide) (fun c60 => absurd c60 (iR_ne (show iR 1 (1) (1) from ⟨by decide, by decide⟩) (show iR 0 (0) (0) from ⟨by decide, by decide⟩) (by decide))) (fun _ => ?_)
    refine lv_iload_n hx hb dX6_isThere_9 rfl (lv_at hl 3 rfl) ?_
    refine lv_iconst (v := 0) hx hb dX6_isThere_10 (by decide) ?_
    refine lv_ldc (v := 199999) hx hb hown (hts _ mw_859) dX6_isThere_11 ?_
    refine call_i (cS (av := [.int a3, .int 0, .int 199999]) (rest := []) B hP hS (c_isWithin l E ρ a3 0 199999 0 199999 (by decide) (by decide)) lk_RX6_54 rfl rfl hl.1 (Nat.le_of_ble_eq_true rfl) ⟨Nat.le_of_ble_eq_true rfl, Nat.le_of_ble_eq_true rfl⟩ ⟨Nat.le_of_ble_eq_true rfl, Nat.le_of_ble_eq_true rfl⟩ dX6_isThere_13) hS (fun r61 ρ62 H locs q63 hP hS => ?_)
    obtain ⟨rfl, q63⟩ := q63
    rcases q63 with ⟨rfl, q63⟩ | ⟨rfl, q63⟩
    · skip
      refine lv_if_eq (tgt := 23) hx hb dX6_isThere_16 (by decide) (fun c64 => absurd c64 (iR_ne (show iR 1 (1) (1) from ⟨by decide, by decide⟩) (show iR 0 (0) (0) from ⟨by decide, by decide⟩) (by decide))) (fun _ => ?_)
      refine lv_iconst (v := 1) hx hb dX6_isThere_19 (by decide) ?_
      refine lv_goto (tgt := 24) hx hb dX6_isThere_20 (by decide) ?_
      exact b24_1 ls _ _  (lv_sub hl [0, 1, 2, 3] rfl) hP hS (iR_w q59 (by decide) (by decide)) (iR_w q63 (by decide) (by decide))
    · skip
      refine lv_if_eq (tgt := 23) hx hb dX6_isThere_16 (by decide) (fun _ => ?_) (fun c65 => absurd rfl c65)
      exact b23_0 ls _ _  (lv_sub hl [0, 1, 2, 3] rfl) hP hS 
  · skip
    refine lv_if_eq (tgt := 23) hx hb dX6_isThere_6 (by decide) (fun _ => ?_) (fun c66 => absurd rfl c66)
    exact b23_0 ls _ _  (lv_sub hl [0, 1, 2, 3] rfl) hP hS 
