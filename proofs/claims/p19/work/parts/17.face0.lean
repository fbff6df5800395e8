theorem dX6_radio_0 : decode cX6_radio 0 = .ok (.iload_n 1, 1) := by decide +kernel
theorem dX6_radio_1 : decode cX6_radio 1 = .ok (.iconst 0, 1) := by decide +kernel
theorem dX6_radio_2 : decode cX6_radio 2 = .ok (.ldc 53, 2) := by decide +kernel
theorem dX6_radio_4 : decode cX6_radio 4 = .ok (.invokestatic 54, 3) := by decide +kernel
theorem dX6_radio_7 : decode cX6_radio 7 = .ok (.ifCond .ne 9, 3) := by decide +kernel
theorem dX6_radio_10 : decode cX6_radio 10 = .ok (.aload_n 0, 1) := by decide +kernel
theorem dX6_radio_11 : decode cX6_radio 11 = .ok (.iconst (-1), 1) := by decide +kernel
theorem dX6_radio_12 : decode cX6_radio 12 = .ok (.invokevirtual 58, 3) := by decide +kernel
theorem dX6_radio_15 : decode cX6_radio 15 = .ok (.ireturn, 1) := by decide +kernel
theorem dX6_radio_16 : decode cX6_radio 16 = .ok (.aload_n 0, 1) := by decide +kernel
theorem dX6_radio_17 : decode cX6_radio 17 = .ok (.getfield 12, 3) := by decide +kernel
theorem dX6_radio_20 : decode cX6_radio 20 = .ok (.getfield 62, 3) := by decide +kernel
theorem dX6_radio_23 : decode cX6_radio 23 = .ok (.bipush 6, 2) := by decide +kernel
theorem dX6_radio_25 : decode cX6_radio 25 = .ok (.if_icmp .lt 10, 3) := by decide +kernel
theorem dX6_radio_28 : decode cX6_radio 28 = .ok (.aload_n 0, 1) := by decide +kernel
theorem dX6_radio_29 : decode cX6_radio 29 = .ok (.bipush (-5), 2) := by decide +kernel
theorem dX6_radio_31 : decode cX6_radio 31 = .ok (.invokevirtual 58, 3) := by decide +kernel
theorem dX6_radio_34 : decode cX6_radio 34 = .ok (.ireturn, 1) := by decide +kernel
theorem dX6_radio_35 : decode cX6_radio 35 = .ok (.aload_n 0, 1) := by decide +kernel
theorem dX6_radio_36 : decode cX6_radio 36 = .ok (.iconst 0, 1) := by decide +kernel
theorem dX6_radio_37 : decode cX6_radio 37 = .ok (.invokevirtual 65, 3) := by decide +kernel
theorem dX6_radio_40 : decode cX6_radio 40 = .ok (.aload_n 0, 1) := by decide +kernel
theorem dX6_radio_41 : decode cX6_radio 41 = .ok (.getfield 12, 3) := by decide +kernel
theorem dX6_radio_44 : decode cX6_radio 44 = .ok (.getfield 69, 3) := by decide +kernel
theorem dX6_radio_47 : decode cX6_radio 47 = .ok (.aload_n 0, 1) := by decide +kernel
theorem dX6_radio_48 : decode cX6_radio 48 = .ok (.getfield 12, 3) := by decide +kernel
theorem dX6_radio_51 : decode cX6_radio 51 = .ok (.getfield 62, 3) := by decide +kernel
theorem dX6_radio_54 : decode cX6_radio 54 = .ok (.iload_n 1, 1) := by decide +kernel
theorem dX6_radio_55 : decode cX6_radio 55 = .ok (.iastore, 1) := by decide +kernel
theorem dX6_radio_56 : decode cX6_radio 56 = .ok (.aload_n 0, 1) := by decide +kernel
theorem dX6_radio_57 : decode cX6_radio 57 = .ok (.getfield 12, 3) := by decide +kernel
theorem dX6_radio_60 : decode cX6_radio 60 = .ok (.dup, 1) := by decide +kernel
theorem dX6_radio_61 : decode cX6_radio 61 = .ok (.getfield 62, 3) := by decide +kernel
theorem dX6_radio_64 : decode cX6_radio 64 = .ok (.iconst 1, 1) := by decide +kernel
theorem dX6_radio_65 : decode cX6_radio 65 = .ok (.iadd, 1) := by decide +kernel
theorem dX6_radio_66 : decode cX6_radio 66 = .ok (.putfield 62, 3) := by decide +kernel
theorem dX6_radio_69 : decode cX6_radio 69 = .ok (.aload_n 0, 1) := by decide +kernel
theorem dX6_radio_70 : decode cX6_radio 70 = .ok (.aload_n 0, 1) := by decide +kernel
theorem dX6_radio_71 : decode cX6_radio 71 = .ok (.getfield 12, 3) := by decide +kernel
theorem dX6_radio_74 : decode cX6_radio 74 = .ok (.getfield 62, 3) := by decide +kernel
theorem dX6_radio_77 : decode cX6_radio 77 = .ok (.iconst 1, 1) := by decide +kernel
theorem dX6_radio_78 : decode cX6_radio 78 = .ok (.isub, 1) := by decide +kernel
theorem dX6_radio_79 : decode cX6_radio 79 = .ok (.invokevirtual 72, 3) := by decide +kernel
theorem dX6_radio_82 : decode cX6_radio 82 = .ok (.ireturn, 1) := by decide +kernel
theorem dX6_net_0 : decode cX6_net 0 = .ok (.iload_n 1, 1) := by decide +kernel
theorem dX6_net_1 : decode cX6_net 1 = .ok (.iconst 0, 1) := by decide +kernel
theorem dX6_net_2 : decode cX6_net 2 = .ok (.iconst 1, 1) := by decide +kernel
theorem dX6_net_3 : decode cX6_net 3 = .ok (.invokestatic 54, 3) := by decide +kernel
theorem dX6_net_6 : decode cX6_net 6 = .ok (.ifCond .eq 13, 3) := by decide +kernel
theorem dX6_net_9 : decode cX6_net 9 = .ok (.iload_n 3, 1) := by decide +kernel
theorem dX6_net_10 : decode cX6_net 10 = .ok (.iconst 0, 1) := by decide +kernel
theorem dX6_net_11 : decode cX6_net 11 = .ok (.ldc 75, 2) := by decide +kernel
theorem dX6_net_13 : decode cX6_net 13 = .ok (.invokestatic 54, 3) := by decide +kernel
theorem dX6_net_16 : decode cX6_net 16 = .ok (.ifCond .ne 9, 3) := by decide +kernel
theorem dX6_net_19 : decode cX6_net 19 = .ok (.aload_n 0, 1) := by decide +kernel
theorem dX6_net_20 : decode cX6_net 20 = .ok (.iconst (-1), 1) := by decide +kernel
theorem dX6_net_21 : decode cX6_net 21 = .ok (.invokevirtual 58, 3) := by decide +kernel
theorem dX6_net_24 : decode cX6_net 24 = .ok (.ireturn, 1) := by decide +kernel
theorem dX6_net_25 : decode cX6_net 25 = .ok (.aload_n 0, 1) := by decide +kernel
theorem dX6_net_26 : decode cX6_net 26 = .ok (.getfield 12, 3) := by decide +kernel
theorem dX6_net_29 : decode cX6_net 29 = .ok (.iload_n 2, 1) := by decide +kernel
theorem dX6_net_30 : decode cX6_net 30 = .ok (.invokevirtual 76, 3) := by decide +kernel
theorem dX6_net_33 : decode cX6_net 33 = .ok (.ifCond .ne 10, 3) := by decide +kernel
theorem dX6_net_36 : decode cX6_net 36 = .ok (.aload_n 0, 1) := by decide +kernel
theorem dX6_net_37 : decode cX6_net 37 = .ok (.bipush (-2), 2) := by decide +kernel
theorem dX6_net_39 : decode cX6_net 39 = .ok (.invokevirtual 58, 3) := by decide +kernel
theorem dX6_net_42 : decode cX6_net 42 = .ok (.ireturn, 1) := by decide +kernel
theorem dX6_net_43 : decode cX6_net 43 = .ok (.aload_n 0, 1) := by decide +kernel
theorem dX6_net_44 : decode cX6_net 44 = .ok (.getfield 12, 3) := by decide +kernel
theorem dX6_net_47 : decode cX6_net 47 = .ok (.getfield 80, 3) := by decide +kernel
theorem dX6_net_50 : decode cX6_net 50 = .ok (.iload_n 1, 1) := by decide +kernel
theorem dX6_net_51 : decode cX6_net 51 = .ok (.aaload, 1) := by decide +kernel
theorem dX6_net_52 : decode cX6_net 52 = .ok (.getfield 84, 3) := by decide +kernel
theorem dX6_net_55 : decode cX6_net 55 = .ok (.iconst (-1), 1) := by decide +kernel
theorem dX6_net_56 : decode cX6_net 56 = .ok (.if_icmp .ne 21, 3) := by decide +kernel
theorem dX6_net_59 : decode cX6_net 59 = .ok (.aload_n 0, 1) := by decide +kernel
theorem dX6_net_60 : decode cX6_net 60 = .ok (.getfield 12, 3) := by decide +kernel
theorem dX6_net_63 : decode cX6_net 63 = .ok (.getfield 80, 3) := by decide +kernel
theorem dX6_net_66 : decode cX6_net 66 = .ok (.iconst 1, 1) := by decide +kernel
theorem dX6_net_67 : decode cX6_net 67 = .ok (.iload_n 1, 1) := by decide +kernel
theorem dX6_net_68 : decode cX6_net 68 = .ok (.isub, 1) := by decide +kernel
theorem dX6_net_69 : decode cX6_net 69 = .ok (.aaload, 1) := by decide +kernel
theorem dX6_net_70 : decode cX6_net 70 = .ok (.getfield 84, 3) := by decide +kernel
theorem dX6_net_73 : decode cX6_net 73 = .ok (.iload_n 2, 1) := by decide +kernel
theorem dX6_net_74 : decode cX6_net 74 = .ok (.if_icmp .ne 10, 3) := by decide +kernel
theorem dX6_net_77 : decode cX6_net 77 = .ok (.aload_n 0, 1) := by decide +kernel
theorem dX6_net_78 : decode cX6_net 78 = .ok (.bipush (-4), 2) := by decide +kernel
theorem dX6_net_80 : decode cX6_net 80 = .ok (.invokevirtual 58, 3) := by decide +kernel
theorem dX6_net_83 : decode cX6_net 83 = .ok (.ireturn, 1) := by decide +kernel
theorem dX6_net_84 : decode cX6_net 84 = .ok (.aload_n 0, 1) := by decide +kernel
theorem dX6_net_85 : decode cX6_net 85 = .ok (.iconst 1, 1) := by decide +kernel
theorem dX6_net_86 : decode cX6_net 86 = .ok (.invokevirtual 65, 3) := by decide +kernel
theorem dX6_net_89 : decode cX6_net 89 = .ok (.aload_n 0, 1) := by decide +kernel
theorem dX6_net_90 : decode cX6_net 90 = .ok (.getfield 12, 3) := by decide +kernel
theorem dX6_net_93 : decode cX6_net 93 = .ok (.getfield 80, 3) := by decide +kernel
theorem dX6_net_96 : decode cX6_net 96 = .ok (.iload_n 1, 1) := by decide +kernel
theorem dX6_net_97 : decode cX6_net 97 = .ok (.aaload, 1) := by decide +kernel
theorem dX6_net_98 : decode cX6_net 98 = .ok (.iload_n 2, 1) := by decide +kernel
theorem dX6_net_99 : decode cX6_net 99 = .ok (.putfield 84, 3) := by decide +kernel
theorem dX6_net_102 : decode cX6_net 102 = .ok (.aload_n 0, 1) := by decide +kernel
theorem dX6_net_103 : decode cX6_net 103 = .ok (.getfield 12, 3) := by decide +kernel
theorem dX6_net_106 : decode cX6_net 106 = .ok (.getfield 80, 3) := by decide +kernel
theorem dX6_net_109 : decode cX6_net 109 = .ok (.iload_n 1, 1) := by decide +kernel
theorem dX6_net_110 : decode cX6_net 110 = .ok (.aaload, 1) := by decide +kernel
theorem dX6_net_111 : decode cX6_net 111 = .ok (.iload_n 3, 1) := by decide +kernel
theorem dX6_net_112 : decode cX6_net 112 = .ok (.putfield 89, 3) := by decide +kernel
theorem dX6_net_115 : decode cX6_net 115 = .ok (.aload_n 0, 1) := by decide +kernel
theorem dX6_net_116 : decode cX6_net 116 = .ok (.aload_n 0, 1) := by decide +kernel
theorem dX6_net_117 : decode cX6_net 117 = .ok (.getfield 12, 3) := by decide +kernel
theorem dX6_net_120 : decode cX6_net 120 = .ok (.getfield 80, 3) := by decide +kernel
theorem dX6_net_123 : decode cX6_net 123 = .ok (.iload_n 1, 1) := by decide +kernel
theorem dX6_net_124 : decode cX6_net 124 = .ok (.aaload, 1) := by decide +kernel
theorem dX6_net_125 : decode cX6_net 125 = .ok (.getfield 92, 3) := by decide +kernel
theorem dX6_net_128 : decode cX6_net 128 = .ok (.invokevirtual 72, 3) := by decide +kernel
theorem dX6_net_131 : decode cX6_net 131 = .ok (.ireturn, 1) := by decide +kernel
theorem dX6_join_0 : decode cX6_join 0 = .ok (.aload_n 0, 1) := by decide +kernel
theorem dX6_join_1 : decode cX6_join 1 = .ok (.getfield 12, 3) := by decide +kernel
theorem dX6_join_4 : decode cX6_join 4 = .ok (.iload_n 1, 1) := by decide +kernel
theorem dX6_join_5 : decode cX6_join 5 = .ok (.invokevirtual 95, 3) := by decide +kernel
theorem dX6_join_8 : decode cX6_join 8 = .ok (.astore_n 3, 1) := by decide +kernel
theorem dX6_join_9 : decode cX6_join 9 = .ok (.aload_n 3, 1) := by decide +kernel
theorem dX6_join_10 : decode cX6_join 10 = .ok (.ifnull 14, 3) := by decide +kernel
theorem dX6_join_13 : decode cX6_join 13 = .ok (.aload_n 0, 1) := by decide +kernel
theorem dX6_join_14 : decode cX6_join 14 = .ok (.getfield 12, 3) := by decide +kernel
theorem dX6_join_17 : decode cX6_join 17 = .ok (.iload_n 2, 1) := by decide +kernel
theorem dX6_join_18 : decode cX6_join 18 = .ok (.invokevirtual 76, 3) := by decide +kernel
theorem dX6_join_21 : decode cX6_join 21 = .ok (.ifCond .ne 10, 3) := by decide +kernel
theorem dX6_join_24 : decode cX6_join 24 = .ok (.aload_n 0, 1) := by decide +kernel
theorem dX6_join_25 : decode cX6_join 25 = .ok (.bipush (-2), 2) := by decide +kernel
theorem dX6_join_27 : decode cX6_join 27 = .ok (.invokevirtual 58, 3) := by decide +kernel
theorem dX6_join_30 : decode cX6_join 30 = .ok (.ireturn, 1) := by decide +kernel
theorem dX6_join_31 : decode cX6_join 31 = .ok (.aload_n 3, 1) := by decide +kernel
theorem dX6_join_32 : decode cX6_join 32 = .ok (.iload_n 2, 1) := by decide +kernel
theorem dX6_join_33 : decode cX6_join 33 = .ok (.invokevirtual 99, 3) := by decide +kernel
theorem dX6_join_36 : decode cX6_join 36 = .ok (.ifCond .eq 10, 3) := by decide +kernel
theorem dX6_join_39 : decode cX6_join 39 = .ok (.aload_n 0, 1) := by decide +kernel
theorem dX6_join_40 : decode cX6_join 40 = .ok (.bipush (-4), 2) := by decide +kernel
theorem dX6_join_42 : decode cX6_join 42 = .ok (.invokevirtual 58, 3) := by decide +kernel
theorem dX6_join_45 : decode cX6_join 45 = .ok (.ireturn, 1) := by decide +kernel
theorem dX6_join_46 : decode cX6_join 46 = .ok (.aload_n 3, 1) := by decide +kernel
theorem dX6_join_47 : decode cX6_join 47 = .ok (.getfield 92, 3) := by decide +kernel
theorem dX6_join_50 : decode cX6_join 50 = .ok (.iconst 4, 1) := by decide +kernel
theorem dX6_join_51 : decode cX6_join 51 = .ok (.if_icmp .lt 10, 3) := by decide +kernel
theorem dX6_join_54 : decode cX6_join 54 = .ok (.aload_n 0, 1) := by decide +kernel
theorem dX6_join_55 : decode cX6_join 55 = .ok (.bipush (-5), 2) := by decide +kernel
theorem dX6_join_57 : decode cX6_join 57 = .ok (.invokevirtual 58, 3) := by decide +kernel
theorem dX6_join_60 : decode cX6_join 60 = .ok (.ireturn, 1) := by decide +kernel
theorem dX6_join_61 : decode cX6_join 61 = .ok (.aload_n 0, 1) := by decide +kernel
theorem dX6_join_62 : decode cX6_join 62 = .ok (.iconst 2, 1) := by decide +kernel
theorem dX6_join_63 : decode cX6_join 63 = .ok (.invokevirtual 65, 3) := by decide +kernel
theorem dX6_join_66 : decode cX6_join 66 = .ok (.aload_n 3, 1) := by decide +kernel
theorem dX6_join_67 : decode cX6_join 67 = .ok (.iload_n 2, 1) := by decide +kernel
theorem dX6_join_68 : decode cX6_join 68 = .ok (.aload_n 0, 1) := by decide +kernel
theorem dX6_join_69 : decode cX6_join 69 = .ok (.getfield 12, 3) := by decide +kernel
theorem dX6_join_72 : decode cX6_join 72 = .ok (.getfield 102, 3) := by decide +kernel
theorem dX6_join_75 : decode cX6_join 75 = .ok (.invokevirtual 105, 3) := by decide +kernel
theorem dX6_join_78 : decode cX6_join 78 = .ok (.aload_n 0, 1) := by decide +kernel
theorem dX6_join_79 : decode cX6_join 79 = .ok (.aload_n 3, 1) := by decide +kernel
theorem dX6_join_80 : decode cX6_join 80 = .ok (.getfield 92, 3) := by decide +kernel
theorem dX6_join_83 : decode cX6_join 83 = .ok (.iconst 1, 1) := by decide +kernel
theorem dX6_join_84 : decode cX6_join 84 = .ok (.isub, 1) := by decide +kernel
theorem dX6_join_85 : decode cX6_join 85 = .ok (.invokevirtual 72, 3) := by decide +kernel
theorem dX6_join_88 : decode cX6_join 88 = .ok (.ireturn, 1) := by decide +kernel
theorem dX6_leave_0 : decode cX6_leave 0 = .ok (.aload_n 0, 1) := by decide +kernel
theorem dX6_leave_1 : decode cX6_leave 1 = .ok (.getfield 12, 3) := by decide +kernel
theorem dX6_leave_4 : decode cX6_leave 4 = .ok (.iload_n 1, 1) := by decide +kernel
theorem dX6_leave_5 : decode cX6_leave 5 = .ok (.invokevirtual 95, 3) := by decide +kernel
theorem dX6_leave_8 : decode cX6_leave 8 = .ok (.astore_n 3, 1) := by decide +kernel
theorem dX6_leave_9 : decode cX6_leave 9 = .ok (.aload_n 3, 1) := by decide +kernel
theorem dX6_leave_10 : decode cX6_leave 10 = .ok (.ifnull 11, 3) := by decide +kernel
theorem dX6_leave_13 : decode cX6_leave 13 = .ok (.aload_n 3, 1) := by decide +kernel
theorem dX6_leave_14 : decode cX6_leave 14 = .ok (.iload_n 2, 1) := by decide +kernel
theorem dX6_leave_15 : decode cX6_leave 15 = .ok (.invokevirtual 109, 3) := by decide +kernel
theorem dX6_leave_18 : decode cX6_leave 18 = .ok (.ifnonnull 10, 3) := by decide +kernel
theorem dX6_leave_21 : decode cX6_leave 21 = .ok (.aload_n 0, 1) := by decide +kernel
theorem dX6_leave_22 : decode cX6_leave 22 = .ok (.bipush (-2), 2) := by decide +kernel
theorem dX6_leave_24 : decode cX6_leave 24 = .ok (.invokevirtual 58, 3) := by decide +kernel
theorem dX6_leave_27 : decode cX6_leave 27 = .ok (.ireturn, 1) := by decide +kernel
theorem dX6_leave_28 : decode cX6_leave 28 = .ok (.aload_n 0, 1) := by decide +kernel
theorem dX6_leave_29 : decode cX6_leave 29 = .ok (.iconst 3, 1) := by decide +kernel
theorem dX6_leave_30 : decode cX6_leave 30 = .ok (.invokevirtual 65, 3) := by decide +kernel
theorem dX6_leave_33 : decode cX6_leave 33 = .ok (.aload_n 3, 1) := by decide +kernel
theorem dX6_leave_34 : decode cX6_leave 34 = .ok (.iload_n 2, 1) := by decide +kernel
theorem dX6_leave_35 : decode cX6_leave 35 = .ok (.invokevirtual 113, 3) := by decide +kernel
theorem dX6_leave_38 : decode cX6_leave 38 = .ok (.aload_n 0, 1) := by decide +kernel
theorem dX6_leave_39 : decode cX6_leave 39 = .ok (.aload_n 3, 1) := by decide +kernel
theorem dX6_leave_40 : decode cX6_leave 40 = .ok (.getfield 92, 3) := by decide +kernel
theorem dX6_leave_43 : decode cX6_leave 43 = .ok (.invokevirtual 72, 3) := by decide +kernel
theorem dX6_leave_46 : decode cX6_leave 46 = .ok (.ireturn, 1) := by decide +kernel
theorem dX6_noise_0 : decode cX6_noise 0 = .ok (.iload_n 1, 1) := by decide +kernel
theorem dX6_noise_1 : decode cX6_noise 1 = .ok (.iconst 0, 1) := by decide +kernel
theorem dX6_noise_2 : decode cX6_noise 2 = .ok (.bipush 22, 2) := by decide +kernel
theorem dX6_noise_4 : decode cX6_noise 4 = .ok (.invokestatic 54, 3) := by decide +kernel
theorem dX6_noise_7 : decode cX6_noise 7 = .ok (.ifCond .eq 13, 3) := by decide +kernel
theorem dX6_noise_10 : decode cX6_noise 10 = .ok (.iload_n 2, 1) := by decide +kernel
theorem dX6_noise_11 : decode cX6_noise 11 = .ok (.iconst 0, 1) := by decide +kernel
theorem dX6_noise_12 : decode cX6_noise 12 = .ok (.bipush 16, 2) := by decide +kernel
theorem dX6_noise_14 : decode cX6_noise 14 = .ok (.invokestatic 54, 3) := by decide +kernel
theorem dX6_noise_17 : decode cX6_noise 17 = .ok (.ifCond .ne 9, 3) := by decide +kernel
theorem dX6_noise_20 : decode cX6_noise 20 = .ok (.aload_n 0, 1) := by decide +kernel
theorem dX6_noise_21 : decode cX6_noise 21 = .ok (.iconst (-1), 1) := by decide +kernel
theorem dX6_noise_22 : decode cX6_noise 22 = .ok (.invokevirtual 58, 3) := by decide +kernel
theorem dX6_noise_25 : decode cX6_noise 25 = .ok (.ireturn, 1) := by decide +kernel
theorem dX6_noise_26 : decode cX6_noise 26 = .ok (.aload_n 0, 1) := by decide +kernel
theorem dX6_noise_27 : decode cX6_noise 27 = .ok (.iconst 4, 1) := by decide +kernel
theorem dX6_noise_28 : decode cX6_noise 28 = .ok (.invokevirtual 65, 3) := by decide +kernel
theorem dX6_noise_31 : decode cX6_noise 31 = .ok (.aload_n 0, 1) := by decide +kernel
theorem dX6_noise_32 : decode cX6_noise 32 = .ok (.getfield 12, 3) := by decide +kernel
theorem dX6_noise_35 : decode cX6_noise 35 = .ok (.getfield 116, 3) := by decide +kernel
theorem dX6_noise_38 : decode cX6_noise 38 = .ok (.iload_n 1, 1) := by decide +kernel
theorem dX6_noise_39 : decode cX6_noise 39 = .ok (.iaload, 1) := by decide +kernel
theorem dX6_noise_40 : decode cX6_noise 40 = .ok (.istore_n 3, 1) := by decide +kernel
theorem dX6_noise_41 : decode cX6_noise 41 = .ok (.aload_n 0, 1) := by decide +kernel
theorem dX6_noise_42 : decode cX6_noise 42 = .ok (.getfield 12, 3) := by decide +kernel
theorem dX6_noise_45 : decode cX6_noise 45 = .ok (.getfield 116, 3) := by decide +kernel
theorem dX6_noise_48 : decode cX6_noise 48 = .ok (.iload_n 1, 1) := by decide +kernel
theorem dX6_noise_49 : decode cX6_noise 49 = .ok (.iload_n 2, 1) := by decide +kernel
theorem dX6_noise_50 : decode cX6_noise 50 = .ok (.iastore, 1) := by decide +kernel
theorem dX6_noise_51 : decode cX6_noise 51 = .ok (.aload_n 0, 1) := by decide +kernel
theorem dX6_noise_52 : decode cX6_noise 52 = .ok (.iload_n 3, 1) := by decide +kernel
theorem dX6_noise_53 : decode cX6_noise 53 = .ok (.invokevirtual 72, 3) := by decide +kernel
theorem dX6_noise_56 : decode cX6_noise 56 = .ok (.ireturn, 1) := by decide +kernel
theorem dX6_terms_0 : decode cX6_terms 0 = .ok (.iload_n 1, 1) := by decide +kernel
theorem dX6_terms_1 : decode cX6_terms 1 = .ok (.iload_n 2, 1) := by decide +kernel
theorem dX6_terms_2 : decode cX6_terms 2 = .ok (.invokestatic 119, 3) := by decide +kernel
theorem dX6_terms_5 : decode cX6_terms 5 = .ok (.ifCond .ne 9, 3) := by decide +kernel
theorem dX6_terms_8 : decode cX6_terms 8 = .ok (.aload_n 0, 1) := by decide +kernel
theorem dX6_terms_9 : decode cX6_terms 9 = .ok (.iconst (-1), 1) := by decide +kernel
theorem dX6_terms_10 : decode cX6_terms 10 = .ok (.invokevirtual 58, 3) := by decide +kernel
theorem dX6_terms_13 : decode cX6_terms 13 = .ok (.ireturn, 1) := by decide +kernel
theorem dX6_terms_14 : decode cX6_terms 14 = .ok (.aload_n 0, 1) := by decide +kernel
theorem dX6_terms_15 : decode cX6_terms 15 = .ok (.iconst 5, 1) := by decide +kernel
theorem dX6_terms_16 : decode cX6_terms 16 = .ok (.invokevirtual 65, 3) := by decide +kernel
theorem dX6_terms_19 : decode cX6_terms 19 = .ok (.iload_n 1, 1) := by decide +kernel
theorem dX6_terms_20 : decode cX6_terms 20 = .ok (.ifCond .ne 22, 3) := by decide +kernel
theorem dX6_terms_23 : decode cX6_terms 23 = .ok (.aload_n 0, 1) := by decide +kernel
theorem dX6_terms_24 : decode cX6_terms 24 = .ok (.getfield 12, 3) := by decide +kernel
theorem dX6_terms_27 : decode cX6_terms 27 = .ok (.getfield 123, 3) := by decide +kernel
theorem dX6_terms_30 : decode cX6_terms 30 = .ok (.istore_n 3, 1) := by decide +kernel
theorem dX6_terms_31 : decode cX6_terms 31 = .ok (.aload_n 0, 1) := by decide +kernel
theorem dX6_terms_32 : decode cX6_terms 32 = .ok (.getfield 12, 3) := by decide +kernel
theorem dX6_terms_35 : decode cX6_terms 35 = .ok (.iload_n 2, 1) := by decide +kernel
theorem dX6_terms_36 : decode cX6_terms 36 = .ok (.putfield 123, 3) := by decide +kernel
theorem dX6_terms_39 : decode cX6_terms 39 = .ok (.goto 43, 3) := by decide +kernel
theorem dX6_terms_42 : decode cX6_terms 42 = .ok (.iload_n 1, 1) := by decide +kernel
theorem dX6_terms_43 : decode cX6_terms 43 = .ok (.iconst 1, 1) := by decide +kernel
theorem dX6_terms_44 : decode cX6_terms 44 = .ok (.if_icmp .ne 22, 3) := by decide +kernel
theorem dX6_terms_47 : decode cX6_terms 47 = .ok (.aload_n 0, 1) := by decide +kernel
theorem dX6_terms_48 : decode cX6_terms 48 = .ok (.getfield 12, 3) := by decide +kernel
theorem dX6_terms_51 : decode cX6_terms 51 = .ok (.getfield 126, 3) := by decide +kernel
theorem dX6_terms_54 : decode cX6_terms 54 = .ok (.istore_n 3, 1) := by decide +kernel
theorem dX6_terms_55 : decode cX6_terms 55 = .ok (.aload_n 0, 1) := by decide +kernel
theorem dX6_terms_56 : decode cX6_terms 56 = .ok (.getfield 12, 3) := by decide +kernel
theorem dX6_terms_59 : decode cX6_terms 59 = .ok (.iload_n 2, 1) := by decide +kernel
theorem dX6_terms_60 : decode cX6_terms 60 = .ok (.putfield 126, 3) := by decide +kernel
theorem dX6_terms_63 : decode cX6_terms 63 = .ok (.goto 19, 3) := by decide +kernel
theorem dX6_terms_66 : decode cX6_terms 66 = .ok (.aload_n 0, 1) := by decide +kernel
theorem dX6_terms_67 : decode cX6_terms 67 = .ok (.getfield 12, 3) := by decide +kernel
theorem dX6_terms_70 : decode cX6_terms 70 = .ok (.getfield 129, 3) := by decide +kernel
theorem dX6_terms_73 : decode cX6_terms 73 = .ok (.istore_n 3, 1) := by decide +kernel
theorem dX6_terms_74 : decode cX6_terms 74 = .ok (.aload_n 0, 1) := by decide +kernel
theorem dX6_terms_75 : decode cX6_terms 75 = .ok (.getfield 12, 3) := by decide +kernel
theorem dX6_terms_78 : decode cX6_terms 78 = .ok (.iload_n 2, 1) := by decide +kernel
theorem dX6_terms_79 : decode cX6_terms 79 = .ok (.putfield 129, 3) := by decide +kernel
theorem dX6_terms_82 : decode cX6_terms 82 = .ok (.aload_n 0, 1) := by decide +kernel
theorem dX6_terms_83 : decode cX6_terms 83 = .ok (.iload_n 3, 1) := by decide +kernel
theorem dX6_terms_84 : decode cX6_terms 84 = .ok (.invokevirtual 72, 3) := by decide +kernel
theorem dX6_terms_87 : decode cX6_terms 87 = .ok (.ireturn, 1) := by decide +kernel
theorem dX6_put_0 : decode cX6_put 0 = .ok (.iload_n 3, 1) := by decide +kernel
theorem dX6_put_1 : decode cX6_put 1 = .ok (.iconst 0, 1) := by decide +kernel
theorem dX6_put_2 : decode cX6_put 2 = .ok (.iconst 1, 1) := by decide +kernel
theorem dX6_put_3 : decode cX6_put 3 = .ok (.invokestatic 54, 3) := by decide +kernel
theorem dX6_put_6 : decode cX6_put 6 = .ok (.ifCond .eq 15, 3) := by decide +kernel
theorem dX6_put_9 : decode cX6_put 9 = .ok (.iload 4, 2) := by decide +kernel
theorem dX6_put_11 : decode cX6_put 11 = .ok (.iconst 0, 1) := by decide +kernel
theorem dX6_put_12 : decode cX6_put 12 = .ok (.sipush 255, 3) := by decide +kernel
theorem dX6_put_15 : decode cX6_put 15 = .ok (.invokestatic 54, 3) := by decide +kernel
theorem dX6_put_18 : decode cX6_put 18 = .ok (.ifCond .ne 9, 3) := by decide +kernel
theorem dX6_put_21 : decode cX6_put 21 = .ok (.aload_n 0, 1) := by decide +kernel
theorem dX6_put_22 : decode cX6_put 22 = .ok (.iconst (-1), 1) := by decide +kernel
theorem dX6_put_23 : decode cX6_put 23 = .ok (.invokevirtual 58, 3) := by decide +kernel
theorem dX6_put_26 : decode cX6_put 26 = .ok (.ireturn, 1) := by decide +kernel
theorem dX6_put_27 : decode cX6_put 27 = .ok (.aload_n 0, 1) := by decide +kernel
theorem dX6_put_28 : decode cX6_put 28 = .ok (.getfield 12, 3) := by decide +kernel
theorem dX6_put_31 : decode cX6_put 31 = .ok (.iload_n 1, 1) := by decide +kernel
theorem dX6_put_32 : decode cX6_put 32 = .ok (.iload_n 2, 1) := by decide +kernel
theorem dX6_put_33 : decode cX6_put 33 = .ok (.invokevirtual 132, 3) := by decide +kernel
theorem dX6_put_36 : decode cX6_put 36 = .ok (.astore 5, 2) := by decide +kernel
theorem dX6_put_38 : decode cX6_put 38 = .ok (.aload 5, 2) := by decide +kernel
theorem dX6_put_40 : decode cX6_put 40 = .ok (.ifnonnull 10, 3) := by decide +kernel
theorem dX6_put_43 : decode cX6_put 43 = .ok (.aload_n 0, 1) := by decide +kernel
theorem dX6_put_44 : decode cX6_put 44 = .ok (.bipush (-2), 2) := by decide +kernel
theorem dX6_put_46 : decode cX6_put 46 = .ok (.invokevirtual 58, 3) := by decide +kernel
theorem dX6_put_49 : decode cX6_put 49 = .ok (.ireturn, 1) := by decide +kernel
theorem dX6_put_50 : decode cX6_put 50 = .ok (.iload_n 3, 1) := by decide +kernel
theorem dX6_put_51 : decode cX6_put 51 = .ok (.ifCond .ne 11, 3) := by decide +kernel
theorem dX6_put_54 : decode cX6_put 54 = .ok (.aload 5, 2) := by decide +kernel
theorem dX6_put_56 : decode cX6_put 56 = .ok (.getfield 135, 3) := by decide +kernel
theorem dX6_put_59 : decode cX6_put 59 = .ok (.goto 8, 3) := by decide +kernel
theorem dX6_put_62 : decode cX6_put 62 = .ok (.aload 5, 2) := by decide +kernel
theorem dX6_put_64 : decode cX6_put 64 = .ok (.getfield 141, 3) := by decide +kernel
theorem dX6_put_67 : decode cX6_put 67 = .ok (.astore 6, 2) := by decide +kernel
theorem dX6_put_69 : decode cX6_put 69 = .ok (.aload 6, 2) := by decide +kernel
theorem dX6_put_71 : decode cX6_put 71 = .ok (.invokevirtual 144, 3) := by decide +kernel
theorem dX6_put_74 : decode cX6_put 74 = .ok (.ifCond .eq 10, 3) := by decide +kernel
theorem dX6_put_77 : decode cX6_put 77 = .ok (.aload_n 0, 1) := by decide +kernel
theorem dX6_put_78 : decode cX6_put 78 = .ok (.bipush (-5), 2) := by decide +kernel
theorem dX6_put_80 : decode cX6_put 80 = .ok (.invokevirtual 58, 3) := by decide +kernel
theorem dX6_put_83 : decode cX6_put 83 = .ok (.ireturn, 1) := by decide +kernel
theorem dX6_put_84 : decode cX6_put 84 = .ok (.aload_n 0, 1) := by decide +kernel
theorem dX6_put_85 : decode cX6_put 85 = .ok (.bipush 6, 2) := by decide +kernel
theorem dX6_put_87 : decode cX6_put 87 = .ok (.invokevirtual 65, 3) := by decide +kernel
theorem dX6_put_90 : decode cX6_put 90 = .ok (.aload 6, 2) := by decide +kernel
theorem dX6_put_92 : decode cX6_put 92 = .ok (.iload 4, 2) := by decide +kernel
theorem dX6_put_94 : decode cX6_put 94 = .ok (.aload_n 0, 1) := by decide +kernel
theorem dX6_put_95 : decode cX6_put 95 = .ok (.getfield 12, 3) := by decide +kernel
theorem dX6_put_98 : decode cX6_put 98 = .ok (.getfield 102, 3) := by decide +kernel
theorem dX6_put_101 : decode cX6_put 101 = .ok (.invokevirtual 150, 3) := by decide +kernel
theorem dX6_put_104 : decode cX6_put 104 = .ok (.aload_n 0, 1) := by decide +kernel
theorem dX6_put_105 : decode cX6_put 105 = .ok (.aload 6, 2) := by decide +kernel
theorem dX6_put_107 : decode cX6_put 107 = .ok (.getfield 153, 3) := by decide +kernel
theorem dX6_put_110 : decode cX6_put 110 = .ok (.invokevirtual 72, 3) := by decide +kernel
theorem dX6_put_113 : decode cX6_put 113 = .ok (.ireturn, 1) := by decide +kernel
theorem lk_RX6_58 : LkV RX6 58 RX6 yX6_refuse cX6_refuse 3 (some .int) 1 := ⟨⟨mw_458, mw_460, mw_0, mw_52, mw_461⟩, by decide +kernel⟩
set_option maxHeartbeats 4000000 in
set_option maxRecDepth 100000 in
theorem d_X6_radio (l : Launch) (E : hE) (ρ r : Nat → Nat → Int32) (a1 : Int32) (hI : CI r S0 ρ) : Met l yX6_radio (.code yX6_radio cX6_radio 2 (some .int) :: gw_all) (rmk 7 280) (cPre E ρ [.ref (E.2.1 + 0), .int a1]) (cI E (fun v ρ1 => CI r S0 ρ1)) 0 0 (hA E) := by
  refine ent (own := RX6) (by decide) rfl (Nat.le_of_ble_eq_true rfl) ?_
  intro p e s m below meth c ls B hr hlk hl hP hS
  have hx := B.1.1
  have hb := B.1.2.1
  have hown := B.1.2.2.2.1
  have hts := B.1.2.2.2.2
  have hl : lv_has ls 2 [(0, .ref (E.2.1 + 0)), (1, .int a1)] := hl
  refine lv_iload_n hx hb dX6_radio_0 rfl (lv_at hl 1 rfl) ?_
  refine lv_iconst (v := 0) hx hb dX6_radio_1 (by decide) ?_
  refine lv_ldc (v := 268435455) hx hb hown (hts _ mw_454) dX6_radio_2 ?_
  refine call_i (cS (av := [.int a1, .int 0, .int 268435455]) (rest := []) B hP hS (c_isWithin l E ρ a1 0 268435455 0 268435455 (by decide) (by decide)) lk_RX6_54 rfl rfl hl.1 (Nat.le_of_ble_eq_true rfl) ⟨Nat.le_of_ble_eq_true rfl, Nat.le_of_ble_eq_true rfl⟩ ⟨Nat.le_of_ble_eq_true rfl, Nat.le_of_ble_eq_true rfl⟩ dX6_radio_4) hS (fun r40 ρ41 H locs q42 hP hS => ?_)
  obtain ⟨rfl, q42⟩ := q42
  rcases q42 with ⟨rfl, q42⟩ | ⟨rfl, q42⟩
  · skip
    refine lv_if_ne (tgt := 16) hx hb dX6_radio_7 (by decide) (fun _ => ?_) (fun c43 => absurd c43 (iR_ne (show iR 1 (1) (1) from ⟨by decide, by decide⟩) (show iR 0 (0) (0) from ⟨by decide, by decide⟩) (by decide)))
    refine lv_aload_n hx hb dX6_radio_16 rfl (lv_at hl 0 rfl) ?_
    refine get6 B hP (show hk 0 = 6 by decide +kernel) 0 (by decide) mw_412 rfl dX6_radio_17 ?_
    refine get5 B hP (show hk 1 = 5 by decide +kernel) 4 (by decide) mw_380 rfl dX6_radio_20 ?_
    have i44 : iR (ρ 1 4) 0 6 := CI_get hI (by decide) (show hk 1 = 5 by decide +kernel) rfl
    obtain ⟨j45, lj45, uj45, ej45⟩ := iR_nat (a := 0) (b := 6) i44
    refine lv_topi (fun z46 ez46 => ?_)
    obtain rfl : z46 = nI j45 := ez46.trans ej45
    refine lv_bipush (v := 6) hx hb dX6_radio_23 (by decide) ?_
    refine lv_icmp_lt (tgt := 35) hx hb dX6_radio_25 (by decide) (fun c47 => ?_) (fun c47 => ?_)
    · skip
      have n48 := (nx_lt (a := j45) (b := 6) (by omega) (by omega)).mp (show (nI j45 < nI 6) from c47)
      refine lv_aload_n hx hb dX6_radio_35 rfl (lv_at hl 0 rfl) ?_
      refine lv_iconst (v := 0) hx hb dX6_radio_36 (by decide) ?_
      have hI : CI r (SL 1 3) ρ := CI_S hI (fun x hx => by rw [show x = (1, 3) from hx]; exact RC3.mpr (by rw [show ρ 1 4 = (nI j45) from ej45]; exact iR_w (nI_iR (j := j45) (a := 0) (b := 5) (by omega) (by omega) (by omega)) (by decide) (by decide)))
      refine call_v (cVt (k := 0) (av := [.int 0]) (rest := []) B hP hS (d_X6_keepForUndo l E ρ r (SL 1 3) (hSL5 (show hk 1 = 5 by decide +kernel)) 0 hI (fun x hx => by rw [show x = _ from hx]; show _ < 364; omega)) lk_RX6_65 (hrecv (ci := 6) B hP (hk_lt (c := 6) (show hk 0 = 6 by decide +kernel) (by decide)) (hcc6 _ _ (show hk 0 = 6 by decide +kernel)) rfl) rfl rfl hl.1 (Nat.le_of_ble_eq_true rfl) ⟨Nat.le_of_ble_eq_true rfl, Nat.le_of_ble_eq_true rfl⟩ ⟨Nat.le_of_ble_eq_true rfl, Nat.le_of_ble_eq_true rfl⟩ dX6_radio_37) hS (fun ρ50 H locs q51 hP hS => ?_)
      have hI := q51
      refine lv_aload_n hx hb dX6_radio_40 rfl (lv_at hl 0 rfl) ?_
      refine get6 B hP (show hk 0 = 6 by decide +kernel) 0 (by decide) mw_412 rfl dX6_radio_41 ?_
      refine get5 B hP (show hk 1 = 5 by decide +kernel) 0 (by decide) mw_372 rfl dX6_radio_44 ?_
      refine lv_aload_n hx hb dX6_radio_47 rfl (lv_at hl 0 rfl) ?_
      refine get6 B hP (show hk 0 = 6 by decide +kernel) 0 (by decide) mw_412 rfl dX6_radio_48 ?_
      refine get5 B hP (show hk 1 = 5 by decide +kernel) 4 (by decide) mw_380 rfl dX6_radio_51 ?_
      have i53 : iR (ρ50 1 4) 0 5 := RC3.mp (hI.2.1 (1, 3) rfl)
      obtain ⟨j54, lj54, uj54, ej54⟩ := iR_nat (a := 0) (b := 5) i53
      refine lv_topi (fun z55 ez55 => ?_)
      obtain rfl : z55 = nI j54 := ez55.trans ej54
      refine lv_iload_n hx hb dX6_radio_54 rfl (lv_at hl 1 rfl) ?_
      obtain ⟨j56, lj56, uj56, ej56⟩ := iR_nat (a := 0) (b := 268435455) q42
      refine lv_topi (fun z57 ez57 => ?_)
      obtain rfl : z57 = nI j56 := ez57.trans ej56
      refine astn (n := 6) (j := j54) B hP hS (show hk 2 = 8 by decide +kernel) (show hlen 2 = 6 by decide +kernel) rfl (by omega) (by decide) dX6_radio_55 (fun H locs hP hS => ?_)
      obtain ⟨ρ58, e59⟩ : ∃ z, z = up ρ50 2 j54 (nI j56) := ⟨_, rfl⟩
      rw [← e59] at hP
      have hI : CI r (SL 1 3) ρ58 := by rw [e59]; exact CI_up hI (by decide) (SP_plain (show hk 2 = 8 by decide +kernel) rfl (by decide)) ⟨(fun z2 => absurd (Eq.trans (Eq.symm (show hk 2 = 8 by decide +kernel)) z2) (by decide)), (fun z2 => absurd (Eq.trans (Eq.symm (show hk 2 = 8 by decide +kernel)) z2) (by decide))⟩ (hSL5 (show hk 1 = 5 by decide +kernel))
      refine lv_aload_n hx hb dX6_radio_56 rfl (lv_at hl 0 rfl) ?_
      refine get6 B hP (show hk 0 = 6 by decide +kernel) 0 (by decide) mw_412 rfl dX6_radio_57 ?_
      refine lv_dup hx hb dX6_radio_60 rfl ?_
      refine get5 B hP (show hk 1 = 5 by decide +kernel) 4 (by decide) mw_380 (v := .int (nI j54)) (show some (Value.int (ρ58 1 4)) = some (Value.int (nI j54)) from congrArg (fun z => some (Value.int z)) (by rw [e59]; exact up_get_ne (Or.inl (fun z => absurd (Eq.trans (Eq.symm (show hk 1 = 5 by decide +kernel)) (Eq.trans (congrArg hk z) (show hk 2 = 8 by decide +kernel))) (by decide))) ej54)) dX6_radio_61 ?_
      refine lv_iconst (v := 1) hx hb dX6_radio_64 (by decide) ?_
      refine lv_iadd hx hb dX6_radio_65 ?_
      refine lv_topi (fun z60 ez60 => ?_)
      obtain rfl : z60 = (nI (1 + j54)) := ez60.trans (by rw [show (nI j54) = nI j54 from rfl, show 1 = nI 1 from rfl, nI_add] <;> exact congrArg nI (by omega))
      refine put5 B hP hS (show hk 1 = 5 by decide +kernel) 4 (by decide) mw_380 rfl rfl rfl (fs5_4 E 1 _ _) dX6_radio_66 (fun H locs hP hS => ?_)
      obtain ⟨ρ61, e62⟩ : ∃ z, z = up ρ58 1 4 (nI (1 + j54)) := ⟨_, rfl⟩
      rw [← e62] at hP
      have hI : CI r S0 ρ61 := by rw [e62]; exact CI_upS hI (by decide) (SP_rng (show hk 1 = 5 by decide +kernel) rfl (by decide) (iR_w (a := 1) (b := 6) (nI_iR (j := (1 + j54)) (a := 1) (b := 6) (by omega) (by omega) (by omega)) (by decide) (by decide))) (fun x hx => hx.elim)
      refine lv_aload_n hx hb dX6_radio_69 rfl (lv_at hl 0 rfl) ?_
      refine lv_aload_n hx hb dX6_radio_70 rfl (lv_at hl 0 rfl) ?_
      refine get6 B hP (show hk 0 = 6 by decide +kernel) 0 (by decide) mw_412 rfl dX6_radio_71 ?_
      refine get5 B hP (show hk 1 = 5 by decide +kernel) 4 (by decide) mw_380 (v := .int (nI (1 + j54))) (show some (Value.int (ρ61 1 4)) = some (Value.int (nI (1 + j54))) from congrArg (fun z => some (Value.int z)) (by rw [e62]; exact up_get_at)) dX6_radio_74 ?_
      refine lv_iconst (v := 1) hx hb dX6_radio_77 (by decide) ?_
      refine lv_isub hx hb dX6_radio_78 ?_
      obtain ⟨j63, lj63, uj63, ej63⟩ := iR_nat (a := 0) (b := 5) (iR_sub (a' := 0) (b' := 5) (nI_iR (j := (1 + j54)) (a := 1) (b := 6) (by omega) (by omega) (by omega)) (show iR 1 (1) (1) from ⟨by decide, by decide⟩) (by decide) (by decide) (by decide) (by decide))
      refine lv_topi (fun z64 ez64 => ?_)
      obtain rfl : z64 = nI j63 := ez64.trans ej63
      refine call_i (cVt (k := 0) (av := [.int (nI j63)]) (rest := []) B hP hS (d_X6_accept l E ρ61 r (nI j63) hI) lk_RX6_72 (hrecv (ci := 6) B hP (hk_lt (c := 6) (show hk 0 = 6 by decide +kernel) (by decide)) (hcc6 _ _ (show hk 0 = 6 by decide +kernel)) rfl) rfl rfl hl.1 (Nat.le_of_ble_eq_true rfl) ⟨Nat.le_of_ble_eq_true rfl, Nat.le_of_ble_eq_true rfl⟩ ⟨Nat.le_of_ble_eq_true rfl, Nat.le_of_ble_eq_true rfl⟩ dX6_radio_79) hS (fun r65 ρ66 H locs q67 hP hS => ?_)
      have hI := q67
      exact ret_i B hr hlk hP hS dX6_radio_82 (hI)
    · skip
      have n69 := mt (nx_lt (a := j45) (b := 6) (by omega) (by omega)).mpr (show ¬ (nI j45 < nI 6) from c47)
      refine lv_aload_n hx hb dX6_radio_28 rfl (lv_at hl 0 rfl) ?_
      refine lv_bipush (v := (-5)) hx hb dX6_radio_29 (by decide) ?_
      refine call_i (cVt (k := 0) (av := [.int (-5)]) (rest := []) B hP hS (d_X6_refuse l E ρ r (-5) hI) lk_RX6_58 (hrecv (ci := 6) B hP (hk_lt (c := 6) (show hk 0 = 6 by decide +kernel) (by decide)) (hcc6 _ _ (show hk 0 = 6 by decide +kernel)) rfl) rfl rfl hl.1 (Nat.le_of_ble_eq_true rfl) ⟨Nat.le_of_ble_eq_true rfl, Nat.le_of_ble_eq_true rfl⟩ ⟨Nat.le_of_ble_eq_true rfl, Nat.le_of_ble_eq_true rfl⟩ dX6_radio_31) hS (fun r70 ρ71 H locs q72 hP hS => ?_)
      have hI := q72
      exact ret_i B hr hlk hP hS dX6_radio_34 (hI)
  · skip
    refine lv_if_ne (tgt := 16) hx hb dX6_radio_7 (by decide) (fun c74 => absurd rfl c74) (fun _ => ?_)
    refine lv_aload_n hx hb dX6_radio_10 rfl (lv_at hl 0 rfl) ?_
    refine lv_iconst (v := (-1)) hx hb dX6_radio_11 (by decide) ?_
    refine call_i (cVt (k := 0) (av := [.int (-1)]) (rest := []) B hP hS (d_X6_refuse l E ρ r (-1) hI) lk_RX6_58 (hrecv (ci := 6) B hP (hk_lt (c := 6) (show hk 0 = 6 by decide +kernel) (by decide)) (hcc6 _ _ (show hk 0 = 6 by decide +kernel)) rfl) rfl rfl hl.1 (Nat.le_of_ble_eq_true rfl) ⟨Nat.le_of_ble_eq_true rfl, Nat.le_of_ble_eq_true rfl⟩ ⟨Nat.le_of_ble_eq_true rfl, Nat.le_of_ble_eq_true rfl⟩ dX6_radio_12) hS (fun r75 ρ76 H locs q77 hP hS => ?_)
    have hI := q77
    exact ret_i B hr hlk hP hS dX6_radio_15 (hI)

theorem lk_RX6_76 : LkV RX6 76 RX5 yX5_hasRadio cX5_hasRadio 2 (some .boolean) 1 := ⟨⟨mw_508, mw_509, mw_510, mw_53, mw_511⟩, by decide +kernel⟩
set_option maxHeartbeats 4000000 in
set_option maxRecDepth 100000 in
theorem d_X6_net (l : Launch) (E : hE) (ρ r : Nat → Nat → Int32) (a1 : Int32) (a2 : Int32) (a3 : Int32) (hI : CI r S0 ρ) : Met l yX6_net (.code yX6_net cX6_net 4 (some .int) :: gw_all) (rmk 7 280) (cPre E ρ [.ref (E.2.1 + 0), .int a1, .int a2, .int a3]) (cI E (fun v ρ1 => CI r S0 ρ1)) 0 0 (hA E) := by
  refine ent (own := RX6) (by decide) rfl (Nat.le_of_ble_eq_true rfl) ?_
  intro p e s m below meth c ls B hr hlk hl hP hS
  have hx := B.1.1
  have hb := B.1.2.1
  have hown := B.1.2.2.2.1
  have hts := B.1.2.2.2.2
  have hl : lv_has ls 4 [(0, .ref (E.2.1 + 0)), (1, .int a1), (2, .int a2), (3, .int a3)] := hl
  have b77_0 : ∀ (ls : Array Slot) (ρ : Nat → Nat → Int32) (H : Heap) (locs : List Loc) , lv_has ls 4 [(0, .ref (E.2.1 + 0))] → WP E ρ H → va_S (hA E) s.heap H locs → CI r S0 ρ → iR a1 (0) (1) → iR a2 (0) (5) → iR a3 (0) (65535) → W p l e (rmk 7 280) s m ([.ref (E.2.1 + 0), .int a1, .int a2, .int a3] : List Value).toArray below meth c H locs 0 0 (MQ below (cI E (fun v ρ1 => CI r S0 ρ1)) ([.ref (E.2.1 + 0), .int a1, .int a2, .int a3] : List Value).toArray s 0 0 (hA E)) (F0 m 77 ls []) := by
    intro ls ρ H locs  hl hP hS hI fa1 fa2 fa3
    refine lv_aload_n hx hb dX6_net_77 rfl (lv_at hl 0 rfl) ?_
    refine lv_bipush (v := (-4)) hx hb dX6_net_78 (by decide) ?_
    refine call_i (cVt (k := 0) (av := [.int (-4)]) (rest := []) B hP hS (d_X6_refuse l E ρ r (-4) hI) lk_RX6_58 (hrecv (ci := 6) B hP (hk_lt (c := 6) (show hk 0 = 6 by decide +kernel) (by decide)) (hcc6 _ _ (show hk 0 = 6 by decide +kernel)) rfl) rfl rfl hl.1 (Nat.le_of_ble_eq_true rfl) ⟨Nat.le_of_ble_eq_true rfl, Nat.le_of_ble_eq_true rfl⟩ ⟨Nat.le_of_ble_eq_true rfl, Nat.le_of_ble_eq_true rfl⟩ dX6_net_80) hS (fun r60 ρ61 H locs q62 hP hS => ?_)
    have hI := q62
    exact ret_i B hr hlk hP hS dX6_net_83 (hI)
  have b19_0 : ∀ (ls : Array Slot) (ρ : Nat → Nat → Int32) (H : Heap) (locs : List Loc) , lv_has ls 4 [(0, .ref (E.2.1 + 0))] → WP E ρ H → va_S (hA E) s.heap H locs → CI r S0 ρ → W p l e (rmk 7 280) s m ([.ref (E.2.1 + 0), .int a1, .int a2, .int a3] : List Value).toArray below meth c H locs 0 0 (MQ below (cI E (fun v ρ1 => CI r S0 ρ1)) ([.ref (E.2.1 + 0), .int a1, .int a2, .int a3] : List Value).toArray s 0 0 (hA E)) (F0 m 19 ls []) := by
    intro ls ρ H locs  hl hP hS hI
    refine lv_aload_n hx hb dX6_net_19 rfl (lv_at hl 0 rfl) ?_
    refine lv_iconst (v := (-1)) hx hb dX6_net_20 (by decide) ?_
    refine call_i (cVt (k := 0) (av := [.int (-1)]) (rest := []) B hP hS (d_X6_refuse l E ρ r (-1) hI) lk_RX6_58 (hrecv (ci := 6) B hP (hk_lt (c := 6) (show hk 0 = 6 by decide +kernel) (by decide)) (hcc6 _ _ (show hk 0 = 6 by decide +kernel)) rfl) rfl rfl hl.1 (Nat.le_of_ble_eq_true rfl) ⟨Nat.le_of_ble_eq_true rfl, Nat.le_of_ble_eq_true rfl⟩ ⟨Nat.le_of_ble_eq_true rfl, Nat.le_of_ble_eq_true rfl⟩ dX6_net_21) hS (fun r64 ρ65 H locs q66 hP hS => ?_)
    have hI := q66
    exact ret_i B hr hlk hP hS dX6_net_24 (hI)
  refine lv_iload_n hx hb dX6_net_0 rfl (lv_at hl 1 rfl) ?_
  refine lv_iconst (v := 0) hx hb dX6_net_1 (by decide) ?_
  refine lv_iconst (v := 1) hx hb dX6_net_2 (by decide) ?_
  refine call_i (cS (av := [.int a1, .int 0, .int 1]) (rest := []) B hP hS (c_isWithin l E ρ a1 0 1 0 1 (by decide) (by decide)) lk_RX6_54 rfl rfl hl.1 (Nat.le_of_ble_eq_true rfl) ⟨Nat.le_of_ble_eq_true rfl, Nat.le_of_ble_eq_true rfl⟩ ⟨Nat.le_of_ble_eq_true rfl, Nat.le_of_ble_eq_true rfl⟩ dX6_net_3) hS (fun r68 ρ69 H locs q70 hP hS => ?_)
  obtain ⟨rfl, q70⟩ := q70
  rcases q70 with ⟨rfl, q70⟩ | ⟨rfl, q70⟩
  · skip
    refine lv_if_eq (tgt := 19) hx hb dX6_net_6 (by decide) (fun c71 => absurd c71 (iR_ne (show iR 1 (1) (1) from ⟨by decide, by decide⟩) (show iR 0 (0) (0) from ⟨by decide, by decide⟩) (by decide))) (fun _ => ?_)
    refine lv_iload_n hx hb dX6_net_9 rfl (lv_at hl 3 rfl) ?_
    refine lv_iconst (v := 0) hx hb dX6_net_10 (by decide) ?_
    refine lv_ldc (v := 65535) hx hb hown (hts _ mw_507) dX6_net_11 ?_
    refine call_i (cS (av := [.int a3, .int 0, .int 65535]) (rest := []) B hP hS (c_isWithin l E ρ a3 0 65535 0 65535 (by decide) (by decide)) lk_RX6_54 rfl rfl hl.1 (Nat.le_of_ble_eq_true rfl) ⟨Nat.le_of_ble_eq_true rfl, Nat.le_of_ble_eq_true rfl⟩ ⟨Nat.le_of_ble_eq_true rfl, Nat.le_of_ble_eq_true rfl⟩ dX6_net_13) hS (fun r72 ρ73 H locs q74 hP hS => ?_)
    obtain ⟨rfl, q74⟩ := q74
    rcases q74 with ⟨rfl, q74⟩ | ⟨rfl, q74⟩
    · skip
      refine lv_if_ne (tgt := 25) hx hb dX6_net_16 (by decide) (fun _ => ?_) (fun c75 => absurd c75 (iR_ne (show iR 1 (1) (1) from ⟨by decide, by decide⟩) (show iR 0 (0) (0) from ⟨by decide, by decide⟩) (by decide)))
      refine lv_aload_n hx hb dX6_net_25 rfl (lv_at hl 0 rfl) ?_
      refine get6 B hP (show hk 0 = 6 by decide +kernel) 0 (by decide) mw_412 rfl dX6_net_26 ?_
      refine lv_iload_n hx hb dX6_net_29 rfl (lv_at hl 2 rfl) ?_
      refine call_i (cVt (k := 1) (av := [.int a2]) (rest := []) B hP hS (d_X5_hasRadio l E ρ r S0 hS0 1 (show hk 1 = 5 by decide +kernel) a2 hI) lk_RX6_76 (hrecv (ci := 5) B hP (hk_lt (c := 5) (show hk 1 = 5 by decide +kernel) (by decide)) (hcc5 _ _ (show hk 1 = 5 by decide +kernel)) rfl) rfl rfl hl.1 (Nat.le_of_ble_eq_true rfl) ⟨Nat.le_of_ble_eq_true rfl, Nat.le_of_ble_eq_true rfl⟩ ⟨Nat.le_of_ble_eq_true rfl, Nat.le_of_ble_eq_true rfl⟩ dX6_net_30) hS (fun r76 ρ77 H locs q78 hP hS => ?_)
      obtain ⟨rfl, hI, q78⟩ := q78
      rcases q78 with rfl | ⟨rfl, q78⟩
      · skip
        refine lv_if_ne (tgt := 43) hx hb dX6_net_33 (by decide) (fun c79 => absurd rfl c79) (fun _ => ?_)
        refine lv_aload_n hx hb dX6_net_36 rfl (lv_at hl 0 rfl) ?_
        refine lv_bipush (v := (-2)) hx hb dX6_net_37 (by decide) ?_
        refine call_i (cVt (k := 0) (av := [.int (-2)]) (rest := []) B hP hS (d_X6_refuse l E ρ r (-2) hI) lk_RX6_58 (hrecv (ci := 6) B hP (hk_lt (c := 6) (show hk 0 = 6 by decide +kernel) (by decide)) (hcc6 _ _ (show hk 0 = 6 by decide +kernel)) rfl) rfl rfl hl.1 (Nat.le_of_ble_eq_true rfl) ⟨Nat.le_of_ble_eq_true rfl, Nat.le_of_ble_eq_true rfl⟩ ⟨Nat.le_of_ble_eq_true rfl, Nat.le_of_ble_eq_true rfl⟩ dX6_net_39) hS (fun r80 ρ81 H locs q82 hP hS => ?_)
        have hI := q82
        exact ret_i B hr hlk hP hS dX6_net_42 (hI)
      · skip
        refine lv_if_ne (tgt := 43) hx hb dX6_net_33 (by decide) (fun _ => ?_) (fun c84 => absurd c84 (iR_ne (show iR 1 (1) (1) from ⟨by decide, by decide⟩) (show iR 0 (0) (0) from ⟨by decide, by decide⟩) (by decide)))
        refine lv_aload_n hx hb dX6_net_43 rfl (lv_at hl 0 rfl) ?_
        refine get6 B hP (show hk 0 = 6 by decide +kernel) 0 (by decide) mw_412 rfl dX6_net_44 ?_
        refine get5 B hP (show hk 1 = 5 by decide +kernel) 3 (by decide) mw_378 rfl dX6_net_47 ?_
        refine lv_iload_n hx hb dX6_net_50 rfl (lv_at hl 1 rfl) ?_
        obtain ⟨j85, lj85, uj85, ej85⟩ := iR_nat (a := 0) (b := 1) q70
        refine lv_topi (fun z86 ez86 => ?_)
        obtain rfl : z86 = nI j85 := ez86.trans ej85
        refine aldNn (j := j85) B hP (show hk 5 = 11 by decide +kernel) (show hlen 5 = 2 by decide +kernel) rfl (by omega) dX6_net_51 ?_
        refine get2 B hP (lay5n (k := 1) (n := j85) (by decide +kernel) (by omega)) 5 (by decide) mw_295 rfl dX6_net_52 ?_
        refine lv_iconst (v := (-1)) hx hb dX6_net_55 (by decide) ?_
        refine lv_icmp_ne (tgt := 77) hx hb dX6_net_56 (by decide) (fun c87 => ?_) (fun c87 => ?_)
        · skip
          exact b77_0 ls ρ _ _  (lv_sub hl [0] rfl) hP hS hI (iR_w q70 (by decide) (by decide)) (iR_w q78 (by decide) (by decide)) (iR_w q74 (by decide) (by decide))
        · skip
          have i88 : iR (ρ (5 + 1 + 42 * j85) 5) (-1) (-1) := (by rw [c87]; exact ⟨by decide, by decide⟩)
          refine lv_aload_n hx hb dX6_net_59 rfl (lv_at hl 0 rfl) ?_
          refine get6 B hP (show hk 0 = 6 by decide +kernel) 0 (by decide) mw_412 rfl dX6_net_60 ?_
          refine get5 B hP (show hk 1 = 5 by decide +kernel) 3 (by decide) mw_378 rfl dX6_net_63 ?_
          refine lv_iconst (v := 1) hx hb dX6_net_66 (by decide) ?_
          refine lv_iload_n hx hb dX6_net_67 rfl (lv_at hl 1 rfl) ?_
          refine lv_topi (fun z89 ez89 => ?_)
          obtain rfl : z89 = nI j85 := ez89.trans ej85
          refine lv_isub hx hb dX6_net_68 ?_
          obtain ⟨j90, lj90, uj90, ej90⟩ := iR_nat (a := 0) (b := 1) (iR_sub (a' := 0) (b' := 1) (show iR 1 (1) (1) from ⟨by decide, by decide⟩) (nI_iR (j := j85) (a := 0) (b := 1) (by omega) (by omega) (by omega)) (by decide) (by decide) (by decide) (by decide))
          refine lv_topi (fun z91 ez91 => ?_)
          obtain rfl : z91 = nI j90 := ez91.trans ej90
          refine aldNn (j := j90) B hP (show hk 5 = 11 by decide +kernel) (show hlen 5 = 2 by decide +kernel) rfl (by omega) dX6_net_69 ?_
          refine get2 B hP (lay5n (k := 1) (n := j90) (by decide +kernel) (by omega)) 5 (by decide) mw_295 rfl dX6_net_70 ?_
          refine lv_iload_n hx hb dX6_net_73 rfl (lv_at hl 2 rfl) ?_
          obtain ⟨j92, lj92, uj92, ej92⟩ := iR_nat (a := 0) (b := 5) q78
          refine lv_topi (fun z93 ez93 => ?_)
          obtain rfl : z93 = nI j92 := ez93.trans ej92
          refine lv_icmp_ne (tgt := 84) hx hb dX6_net_74 (by decide) (fun c94 => ?_) (fun c94 => ?_)
          · skip
            refine lv_aload_n hx hb dX6_net_84 rfl (lv_at hl 0 rfl) ?_
            refine lv_iconst (v := 1) hx hb dX6_net_85 (by decide) ?_
            refine call_v (cVt (k := 0) (av := [.int 1]) (rest := []) B hP hS (d_X6_keepForUndo l E ρ r S0 hS0 1 hI (fun _ q => q.elim)) lk_RX6_65 (hrecv (ci := 6) B hP (hk_lt (c := 6) (show hk 0 = 6 by decide +kernel) (by decide)) (hcc6 _ _ (show hk 0 = 6 by decide +kernel)) rfl) rfl rfl hl.1 (Nat.le_of_ble_eq_true rfl) ⟨Nat.le_of_ble_eq_true rfl, Nat.le_of_ble_eq_true rfl⟩ ⟨Nat.le_of_ble_eq_true rfl, Nat.le_of_ble_eq_true rfl⟩ dX6_net_86) hS (fun ρ96 H locs q97 hP hS => ?_)
            have hI := q97
            refine lv_aload_n hx hb dX6_net_89 rfl (lv_at hl 0 rfl) ?_
            refine get6 B hP (show hk 0 = 6 by decide +kernel) 0 (by decide) mw_412 rfl dX6_net_90 ?_
            refine get5 B hP (show hk 1 = 5 by decide +kernel) 3 (by decide) mw_378 rfl dX6_net_93 ?_
            refine lv_iload_n hx hb dX6_net_96 rfl (lv_at hl 1 rfl) ?_
            refine lv_topi (fun z99 ez99 => ?_)
            obtain rfl : z99 = nI j85 := ez99.trans ej85
            refine aldNn (j := j85) B hP (show hk 5 = 11 by decide +kernel) (show hlen 5 = 2 by decide +kernel) rfl (by omega) dX6_net_97 ?_
            refine lv_iload_n hx hb dX6_net_98 rfl (lv_at hl 2 rfl) ?_
            refine lv_topi (fun z100 ez100 => ?_)
            obtain rfl : z100 = nI j92 := ez100.trans ej92
            refine put2 B hP hS (lay5n (k := 1) (n := j85) (by decide +kernel) (by omega)) 5 (by decide) mw_295 rfl rfl rfl (fs2_5 E (5 + 1 + 42 * j85) _ _) dX6_net_99 (fun H locs hP hS => ?_)
            obtain ⟨ρ101, e102⟩ : ∃ z, z = up ρ96 (5 + 1 + 42 * j85) 5 (nI j92) := ⟨_, rfl⟩
            rw [← e102] at hP
            have hI : CI r S0 ρ101 := by rw [e102]; exact CI_up hI (kind_lt (lay5n (k := 1) (n := j85) (by decide +kernel) (by omega)) (by decide)) (SP_plain (lay5n (k := 1) (n := j85) (by decide +kernel) (by omega)) rfl (by decide)) ⟨(fun _ => ⟨by decide, by decide, by decide⟩), (fun z2 => absurd (Eq.trans (Eq.symm (lay5n (k := 1) (n := j85) (by decide +kernel) (by omega))) z2) (by decide))⟩ hS0
            refine lv_aload_n hx hb dX6_net_102 rfl (lv_at hl 0 rfl) ?_
            refine get6 B hP (show hk 0 = 6 by decide +kernel) 0 (by decide) mw_412 rfl dX6_net_103 ?_
            refine get5 B hP (show hk 1 = 5 by decide +kernel) 3 (by decide) mw_378 rfl dX6_net_106 ?_
            refine lv_iload_n hx hb dX6_net_109 rfl (lv_at hl 1 rfl) ?_
            refine lv_topi (fun z103 ez103 => ?_)
            obtain rfl : z103 = nI j85 := ez103.trans ej85
            refine aldNn (j := j85) B hP (show hk 5 = 11 by decide +kernel) (show hlen 5 = 2 by decide +kernel) rfl (by omega) dX6_net_110 ?_
            refine lv_iload_n hx hb dX6_net_111 rfl (lv_at hl 3 rfl) ?_
            obtain ⟨j104, lj104, uj104, ej104⟩ := iR_nat (a := 0) (b := 65535) q74
            refine lv_topi (fun z105 ez105 => ?_)
            obtain rfl : z105 = nI j104 := ez105.trans ej104
            refine put2 B hP hS (lay5n (k := 1) (n := j85) (by decide +kernel) (by omega)) 6 (by decide) mw_298 rfl rfl rfl (fs2_6 E (5 + 1 + 42 * j85) _ _) dX6_net_112 (fun H locs hP hS => ?_)
            obtain ⟨ρ106, e107⟩ : ∃ z, z = up ρ101 (5 + 1 + 42 * j85) 6 (nI j104) := ⟨_, rfl⟩
            rw [← e107] at hP
            have hI : CI r S0 ρ106 := by rw [e107]; exact CI_up hI (kind_lt (lay5n (k := 1) (n := j85) (by decide +kernel) (by omega)) (by decide)) (SP_plain (lay5n (k := 1) (n := j85) (by decide +kernel) (by omega)) rfl (by decide)) ⟨(fun _ => ⟨by decide, by decide, by decide⟩), (fun z2 => absurd (Eq.trans (Eq.symm (lay5n (k := 1) (n := j85) (by decide +kernel) (by omega))) z2) (by decide))⟩ hS0
            refine lv_aload_n hx hb dX6_net_115 rfl (lv_at hl 0 rfl) ?_
            refine lv_aload_n hx hb dX6_net_116 rfl (lv_at hl 0 rfl) ?_
            refine get6 B hP (show hk 0 = 6 by decide +kernel) 0 (by decide) mw_412 rfl dX6_net_117 ?_
            refine get5 B hP (show hk 1 = 5 by decide +kernel) 3 (by decide) mw_378 rfl dX6_net_120 ?_
            refine lv_iload_n hx hb dX6_net_123 rfl (lv_at hl 1 rfl) ?_
            refine lv_topi (fun z108 ez108 => ?_)
            obtain rfl : z108 = nI j85 := ez108.trans ej85
            refine aldNn (j := j85) B hP (show hk 5 = 11 by decide +kernel) (show hlen 5 = 2 by decide +kernel) rfl (by omega) dX6_net_124 ?_
            refine get2 B hP (lay5n (k := 1) (n := j85) (by decide +kernel) (by omega)) 8 (by decide) mw_304 rfl dX6_net_125 ?_
            have i109 : iR (ρ106 (5 + 1 + 42 * j85) 8) 0 4 := CI_get hI (kind_lt (lay5n (k := 1) (n := j85) (by decide +kernel) (by omega)) (by decide)) (lay5n (k := 1) (n := j85) (by decide +kernel) (by omega)) rfl
            obtain ⟨j110, lj110, uj110, ej110⟩ := iR_nat (a := 0) (b := 4) i109
            refine lv_topi (fun z111 ez111 => ?_)
            obtain rfl : z111 = nI j110 := ez111.trans ej110
            refine call_i (cVt (k := 0) (av := [.int (nI j110)]) (rest := []) B hP hS (d_X6_accept l E ρ106 r (nI j110) hI) lk_RX6_72 (hrecv (ci := 6) B hP (hk_lt (c := 6) (show hk 0 = 6 by decide +kernel) (by decide)) (hcc6 _ _ (show hk 0 = 6 by decide +kernel)) rfl) rfl rfl hl.1 (Nat.le_of_ble_eq_true rfl) ⟨Nat.le_of_ble_eq_true rfl, Nat.le_of_ble_eq_true rfl⟩ ⟨Nat.le_of_ble_eq_true rfl, Nat.le_of_ble_eq_true rfl⟩ dX6_net_128) hS (fun r112 ρ113 H locs q114 hP hS => ?_)
            have hI := q114
            exact ret_i B hr hlk hP hS dX6_net_131 (hI)
          · skip
            have i116 : iR (ρ (5 + 1 + 42 * j90) 5) (0) (5) := (by rw [c94]; exact (nI_iR (j := j92) (a := 0) (b := 5) (by omega) (by omega) (by omega)))
            exact b77_0 ls ρ _ _  (lv_sub hl [0] rfl) hP hS hI (iR_w q70 (by decide) (by decide)) (iR_w q78 (by decide) (by decide)) (iR_w q74 (by decide) (by decide))
    · skip
      refine lv_if_ne (tgt := 25) hx hb dX6_net_16 (by decide) (fun c117 => absurd rfl c117) (fun _ => ?_)
      exact b19_0 ls ρ _ _  (lv_sub hl [0] rfl) hP hS hI 
  · skip
    refine lv_if_eq (tgt := 19) hx hb dX6_net_6 (by decide) (fun _ => ?_) (fun c118 => absurd rfl c118)
    exact b19_0 ls ρ _ _  (lv_sub hl [0] rfl) hP hS hI 

theorem lk_RX6_105 : LkV RX6 105 RX2 yX2_addMember cX2_addMember 3 none 2 := ⟨⟨mw_524, mw_525, mw_526, mw_54, mw_527⟩, by decide +kernel⟩
theorem lk_RX6_99 : LkV RX6 99 RX2 yX2_holds cX2_holds 3 (some .boolean) 1 := ⟨⟨mw_520, mw_521, mw_522, mw_54, mw_523⟩, by decide +kernel⟩
set_option maxHeartbeats 4000000 in
set_option maxRecDepth 100000 in
theorem d_X6_join (l : Launch) (E : hE) (ρ r : Nat → Nat → Int32) (a1 : Int32) (a2 : Int32) (hI : CI r S0 ρ) : Met l yX6_join (.code yX6_join cX6_join 4 (some .int) :: gw_all) (rmk 7 280) (cPre E ρ [.ref (E.2.1 + 0), .int a1, .int a2]) (cI E (fun v ρ1 => CI r S0 ρ1)) 0 0 (hA E) := by
  refine ent (own := RX6) (by decide) rfl (Nat.le_of_ble_eq_true rfl) ?_
  intro p e s m below meth c ls B hr hlk hl hP hS
  have hx := B.1.1
  have hb := B.1.2.1
  have hown := B.1.2.2.2.1
  have hts := B.1.2.2.2.2
  have hl : lv_has ls 4 [(0, .ref (E.2.1 + 0)), (1, .int a1), (2, .int a2)] := hl
  have b24_0 : ∀ (ls : Array Slot) (ρ : Nat → Nat → Int32) (H : Heap) (locs : List Loc) , lv_has ls 4 [(0, .ref (E.2.1 + 0))] → WP E ρ H → va_S (hA E) s.heap H locs → CI r S0 ρ → W p l e (rmk 7 280) s m ([.ref (E.2.1 + 0), .int a1, .int a2] : List Value).toArray below meth c H locs 0 0 (MQ below (cI E (fun v ρ1 => CI r S0 ρ1)) ([.ref (E.2.1 + 0), .int a1, .int a2] : List Value).toArray s 0 0 (hA E)) (F0 m 24 ls []) := by
    intro ls ρ H locs  hl hP hS hI
    refine lv_aload_n hx hb dX6_join_24 rfl (lv_at hl 0 rfl) ?_
    refine lv_bipush (v := (-2)) hx hb dX6_join_25 (by decide) ?_
    refine call_i (cVt (k := 0) (av := [.int (-2)]) (rest := []) B hP hS (d_X6_refuse l E ρ r (-2) hI) lk_RX6_58 (hrecv (ci := 6) B hP (hk_lt (c := 6) (show hk 0 = 6 by decide +kernel) (by decide)) (hcc6 _ _ (show hk 0 = 6 by decide +kernel)) rfl) rfl rfl hl.1 (Nat.le_of_ble_eq_true rfl) ⟨Nat.le_of_ble_eq_true rfl, Nat.le_of_ble_eq_true rfl⟩ ⟨Nat.le_of_ble_eq_true rfl, Nat.le_of_ble_eq_true rfl⟩ dX6_join_27) hS (fun r56 ρ57 H locs q58 hP hS => ?_)
    have hI := q58
    exact ret_i B hr hlk hP hS dX6_join_30 (hI)
  refine lv_aload_n hx hb dX6_join_0 rfl (lv_at hl 0 rfl) ?_
  refine get6 B hP (show hk 0 = 6 by decide +kernel) 0 (by decide) mw_412 rfl dX6_join_1 ?_
  refine lv_iload_n hx hb dX6_join_4 rfl (lv_at hl 1 rfl) ?_
  refine call_q (cVt (k := 1) (av := [.int a1]) (rest := []) B hP hS (d_X5_netAt l E ρ r S0 hS0 1 (show hk 1 = 5 by decide +kernel) a1 hI) lk_RX6_95 (hrecv (ci := 5) B hP (hk_lt (c := 5) (show hk 1 = 5 by decide +kernel) (by decide)) (hcc5 _ _ (show hk 1 = 5 by decide +kernel)) rfl) rfl rfl hl.1 (Nat.le_of_ble_eq_true rfl) ⟨Nat.le_of_ble_eq_true rfl, Nat.le_of_ble_eq_true rfl⟩ ⟨Nat.le_of_ble_eq_true rfl, Nat.le_of_ble_eq_true rfl⟩ dX6_join_5) hS (fun r60 ρ61 H locs q62 hP hS => ?_)
  obtain ⟨rfl, hI, q62⟩ := q62
  rcases q62 with rfl | ⟨j63, rfl, ej63, uj63⟩
  · skip
    refine W.eq (g2 := F0 m 8 ls [.null]) rfl ?_
    refine lv_astore_nN (lv' := [(3, .null), (0, .ref (E.2.1 + 0)), (1, .int a1), (2, .int a2)]) hx hb dX6_join_8 rfl hl (by decide) rfl (fun ls hl => ?_)
    refine lv_aload_nN hx hb dX6_join_9 rfl (lv_at hl 0 rfl) ?_
    refine lv_ifnullN (tgt := 24) hx hb dX6_join_10 (by decide) ?_
    exact b24_0 ls ρ _ _  (lv_sub hl [1] rfl) hP hS hI 
  · skip
    refine W.eq (g2 := F0 m 8 ls [.ref (E.2.1 + (5 + 1 + 42 * j63))]) rfl ?_
    refine lv_astore_n (lv' := [(3, .ref (E.2.1 + (5 + 1 + 42 * j63))), (0, .ref (E.2.1 + 0)), (1, .int a1), (2, .int a2)]) hx hb dX6_join_8 rfl hl (by decide) rfl (fun ls hl => ?_)
    refine lv_aload_n hx hb dX6_join_9 rfl (lv_at hl 0 rfl) ?_
    refine lv_ifnull hx hb dX6_join_10 ?_
    refine lv_aload_n hx hb dX6_join_13 rfl (lv_at hl 1 rfl) ?_
    refine get6 B hP (show hk 0 = 6 by decide +kernel) 0 (by decide) mw_412 rfl dX6_join_14 ?_
    refine lv_iload_n hx hb dX6_join_17 rfl (lv_at hl 3 rfl) ?_
    refine call_i (cVt (k := 1) (av := [.int a2]) (rest := []) B hP hS (d_X5_hasRadio l E ρ r S0 hS0 1 (show hk 1 = 5 by decide +kernel) a2 hI) lk_RX6_76 (hrecv (ci := 5) B hP (hk_lt (c := 5) (show hk 1 = 5 by decide +kernel) (by decide)) (hcc5 _ _ (show hk 1 = 5 by decide +kernel)) rfl) rfl rfl hl.1 (Nat.le_of_ble_eq_true rfl) ⟨Nat.le_of_ble_eq_true rfl, Nat.le_of_ble_eq_true rfl⟩ ⟨Nat.le_of_ble_eq_true rfl, Nat.le_of_ble_eq_true rfl⟩ dX6_join_18) hS (fun r65 ρ66 H locs q67 hP hS => ?_)
    obtain ⟨rfl, hI, q67⟩ := q67
    rcases q67 with rfl | ⟨rfl, q67⟩
    · skip
      refine lv_if_ne (tgt := 31) hx hb dX6_join_21 (by decide) (fun c68 => absurd rfl c68) (fun _ => ?_)
      exact b24_0 ls ρ _ _  (lv_sub hl [1] rfl) hP hS hI 
    · skip
      refine lv_if_ne (tgt := 31) hx hb dX6_join_21 (by decide) (fun _ => ?_) (fun c69 => absurd c69 (iR_ne (show iR 1 (1) (1) from ⟨by decide, by decide⟩) (show iR 0 (0) (0) from ⟨by decide, by decide⟩) (by decide)))
      refine lv_aload_n hx hb dX6_join_31 rfl (lv_at hl 0 rfl) ?_
      refine lv_iload_n hx hb dX6_join_32 rfl (lv_at hl 3 rfl) ?_
      obtain ⟨j70, lj70, uj70, ej70⟩ := iR_nat (a := 0) (b := 5) q67
      refine lv_topi (fun z71 ez71 => ?_)
      obtain rfl : z71 = nI j70 := ez71.trans ej70
      refine call_i (cVt (k := (5 + 1 + 42 * j63)) (av := [.int (nI j70)]) (rest := []) B hP hS (d_X2_holds l E ρ r S0 hS0 (5 + 1 + 42 * j63) (lay5n (k := 1) (n := j63) (by decide +kernel) uj63) (nI j70) hI) lk_RX6_99 (hrecv (ci := 2) B hP (hk_lt (c := 2) (lay5n (k := 1) (n := j63) (by decide +kernel) uj63) (by decide)) (hcc2 _ _ (lay5n (k := 1) (n := j63) (by decide +kernel) uj63)) rfl) rfl rfl hl.1 (Nat.le_of_ble_eq_true rfl) ⟨Nat.le_of_ble_eq_true rfl, Nat.le_of_ble_eq_true rfl⟩ ⟨Nat.le_of_ble_eq_true rfl, Nat.le_of_ble_eq_true rfl⟩ dX6_join_33) hS (fun r72 ρ73 H locs q74 hP hS => ?_)
      obtain ⟨rfl, hI, i75⟩ := q74
      obtain ⟨j76, lj76, uj76, ej76⟩ := iR_nat (a := 0) (b := 1) i75
      refine lv_topi (fun z77 ez77 => ?_)
      obtain rfl : z77 = nI j76 := ez77.trans ej76
      refine lv_if_eq (tgt := 46) hx hb dX6_join_36 (by decide) (fun c78 => ?_) (fun c78 => ?_)
      · skip
        have n79 := (nI_eq (a := j76) (b := 0) (by omega) (by omega)).mp (show (nI j76 = nI 0) from c78)
        refine lv_aload_n hx hb dX6_join_46 rfl (lv_at hl 0 rfl) ?_
        refine get2 B hP (lay5n (k := 1) (n := j63) (by decide +kernel) uj63) 8 (by decide) mw_304 rfl dX6_join_47 ?_
        have i80 : iR (ρ (5 + 1 + 42 * j63) 8) 0 4 := CI_get hI (kind_lt (lay5n (k := 1) (n := j63) (by decide +kernel) uj63) (by decide)) (lay5n (k := 1) (n := j63) (by decide +kernel) uj63) rfl
        obtain ⟨j81, lj81, uj81, ej81⟩ := iR_nat (a := 0) (b := 4) i80
        refine lv_topi (fun z82 ez82 => ?_)
        obtain rfl : z82 = nI j81 := ez82.trans ej81
        refine lv_iconst (v := 4) hx hb dX6_join_50 (by decide) ?_
        refine lv_icmp_lt (tgt := 61) hx hb dX6_join_51 (by decide) (fun c83 => ?_) (fun c83 => ?_)
        · skip
          have n84 := (nx_lt (a := j81) (b := 4) (by omega) (by omega)).mp (show (nI j81 < nI 4) from c83)
          refine lv_aload_n hx hb dX6_join_61 rfl (lv_at hl 1 rfl) ?_
          refine lv_iconst (v := 2) hx hb dX6_join_62 (by decide) ?_
          refine call_v (cVt (k := 0) (av := [.int 2]) (rest := []) B hP hS (d_X6_keepForUndo l E ρ r S0 hS0 2 hI (fun _ q => q.elim)) lk_RX6_65 (hrecv (ci := 6) B hP (hk_lt (c := 6) (show hk 0 = 6 by decide +kernel) (by decide)) (hcc6 _ _ (show hk 0 = 6 by decide +kernel)) rfl) rfl rfl hl.1 (Nat.le_of_ble_eq_true rfl) ⟨Nat.le_of_ble_eq_true rfl, Nat.le_of_ble_eq_true rfl⟩ ⟨Nat.le_of_ble_eq_true rfl, Nat.le_of_ble_eq_true rfl⟩ dX6_join_63) hS (fun ρ86 H locs q87 hP hS => ?_)
          have hI := q87
          refine lv_aload_n hx hb dX6_join_66 rfl (lv_at hl 0 rfl) ?_
          refine lv_iload_n hx hb dX6_join_67 rfl (lv_at hl 3 rfl) ?_
          refine lv_topi (fun z89 ez89 => ?_)
          obtain rfl : z89 = nI j70 := ez89.trans ej70
          refine lv_aload_n hx hb dX6_join_68 rfl (lv_at hl 1 rfl) ?_
          refine get6 B hP (show hk 0 = 6 by decide +kernel) 0 (by decide) mw_412 rfl dX6_join_69 ?_
          refine get5 B hP (show hk 1 = 5 by decide +kernel) 5 (by decide) mw_382 rfl dX6_join_72 ?_
          refine call_v (cVt (k := (5 + 1 + 42 * j63)) (av := [.int (nI j70), .int (ρ86 1 5)]) (rest := []) B hP hS (d_X2_addMember l E ρ86 r (5 + 1 + 42 * j63) (lay5n (k := 1) (n := j63) (by decide +kernel) uj63) (nI j70) (ρ86 1 5) hI) lk_RX6_105 (hrecv (ci := 2) B hP (hk_lt (c := 2) (lay5n (k := 1) (n := j63) (by decide +kernel) uj63) (by decide)) (hcc2 _ _ (lay5n (k := 1) (n := j63) (by decide +kernel) uj63)) rfl) rfl rfl hl.1 (Nat.le_of_ble_eq_true rfl) ⟨Nat.le_of_ble_eq_true rfl, Nat.le_of_ble_eq_true rfl⟩ ⟨Nat.le_of_ble_eq_true rfl, Nat.le_of_ble_eq_true rfl⟩ dX6_join_75) hS (fun ρ91 H locs q92 hP hS => ?_)
          have hI := q92
          refine lv_aload_n hx hb dX6_join_78 rfl (lv_at hl 1 rfl) ?_
          refine lv_aload_n hx hb dX6_join_79 rfl (lv_at hl 0 rfl) ?_
          refine get2 B hP (lay5n (k := 1) (n := j63) (by decide +kernel) uj63) 8 (by decide) mw_304 rfl dX6_join_80 ?_
          have i94 : iR (ρ91 (5 + 1 + 42 * j63) 8) 0 4 := CI_get hI (kind_lt (lay5n (k := 1) (n := j63) (by decide +kernel) uj63) (by decide)) (lay5n (k := 1) (n := j63) (by decide +kernel) uj63) rfl
          obtain ⟨j95, lj95, uj95, ej95⟩ := iR_nat (a := 0) (b := 4) i94
          refine lv_topi (fun z96 ez96 => ?_)
          obtain rfl : z96 = nI j95 := ez96.trans ej95
          refine lv_iconst (v := 1) hx hb dX6_join_83 (by decide) ?_
          refine lv_isub hx hb dX6_join_84 ?_
          refine call_i (cVt (k := 0) (av := [.int ((nI j95) - 1)]) (rest := []) B hP hS (d_X6_accept l E ρ91 r ((nI j95) - 1) hI) lk_RX6_72 (hrecv (ci := 6) B hP (hk_lt (c := 6) (show hk 0 = 6 by decide +kernel) (by decide)) (hcc6 _ _ (show hk 0 = 6 by decide +kernel)) rfl) rfl rfl hl.1 (Nat.le_of_ble_eq_true rfl) ⟨Nat.le_of_ble_eq_true rfl, Nat.le_of_ble_eq_true rfl⟩ ⟨Nat.le_of_ble_eq_true rfl, Nat.le_of_ble_eq_true rfl⟩ dX6_join_85) hS (fun r97 ρ98 H locs q99 hP hS => ?_)
          have hI := q99
          exact ret_i B hr hlk hP hS dX6_join_88 (hI)
        · skip
          have n101 := mt (nx_lt (a := j81) (b := 4) (by omega) (by omega)).mpr (show ¬ (nI j81 < nI 4) from c83)
          refine lv_aload_n hx hb dX6_join_54 rfl (lv_at hl 1 rfl) ?_
          refine lv_bipush (v := (-5)) hx hb dX6_join_55 (by decide) ?_
          refine call_i (cVt (k := 0) (av := [.int (-5)]) (rest := []) B hP hS (d_X6_refuse l E ρ r (-5) hI) lk_RX6_58 (hrecv (ci := 6) B hP (hk_lt (c := 6) (show hk 0 = 6 by decide +kernel) (by decide)) (hcc6 _ _ (show hk 0 = 6 by decide +kernel)) rfl) rfl rfl hl.1 (Nat.le_of_ble_eq_true rfl) ⟨Nat.le_of_ble_eq_true rfl, Nat.le_of_ble_eq_true rfl⟩ ⟨Nat.le_of_ble_eq_true rfl, Nat.le_of_ble_eq_true rfl⟩ dX6_join_57) hS (fun r102 ρ103 H locs q104 hP hS => ?_)
          have hI := q104
          exact ret_i B hr hlk hP hS dX6_join_60 (hI)
      · skip
        have n106 := mt (nI_eq (a := j76) (b := 0) (by omega) (by omega)).mpr (show ¬ (nI j76 = nI 0) from c78)
        refine lv_aload_n hx hb dX6_join_39 rfl (lv_at hl 1 rfl) ?_
        refine lv_bipush (v := (-4)) hx hb dX6_join_40 (by decide) ?_
        refine call_i (cVt (k := 0) (av := [.int (-4)]) (rest := []) B hP hS (d_X6_refuse l E ρ r (-4) hI) lk_RX6_58 (hrecv (ci := 6) B hP (hk_lt (c := 6) (show hk 0 = 6 by decide +kernel) (by decide)) (hcc6 _ _ (show hk 0 = 6 by decide +kernel)) rfl) rfl rfl hl.1 (Nat.le_of_ble_eq_true rfl) ⟨Nat.le_of_ble_eq_true rfl, Nat.le_of_ble_eq_true rfl⟩ ⟨Nat.le_of_ble_eq_true rfl, Nat.le_of_ble_eq_true rfl⟩ dX6_join_42) hS (fun r107 ρ108 H locs q109 hP hS => ?_)
        have hI := q109
        exact ret_i B hr hlk hP hS dX6_join_45 (hI)

theorem lk_RX6_113 : LkV RX6 113 RX2 yX2_removeMember cX2_removeMember 4 none 1 := ⟨⟨mw_548, mw_549, mw_550, mw_54, mw_551⟩, by decide +kernel⟩
set_option maxHeartbeats 4000000 in
set_option maxRecDepth 100000 in
theorem d_X6_leave (l : Launch) (E : hE) (ρ r : Nat → Nat → Int32) (a1 : Int32) (a2 : Int32) (hI : CI r S0 ρ) : Met l yX6_leave (.code yX6_leave cX6_leave 4 (some .int) :: gw_all) (rmk 7 280) (cPre E ρ [.ref (E.2.1 + 0), .int a1, .int a2]) (cI E (fun v ρ1 => CI r S0 ρ1)) 0 0 (hA E) := by
  refine ent (own := RX6) (by decide) rfl (Nat.le_of_ble_eq_true rfl) ?_
  intro p e s m below meth c ls B hr hlk hl hP hS
  have hx := B.1.1
  have hb := B.1.2.1
  have hown := B.1.2.2.2.1
  have hts := B.1.2.2.2.2
  have hl : lv_has ls 4 [(0, .ref (E.2.1 + 0)), (1, .int a1), (2, .int a2)] := hl
  have b21_0 : ∀ (ls : Array Slot) (ρ : Nat → Nat → Int32) (H : Heap) (locs : List Loc) , lv_has ls 4 [(0, .ref (E.2.1 + 0))] → WP E ρ H → va_S (hA E) s.heap H locs → CI r S0 ρ → W p l e (rmk 7 280) s m ([.ref (E.2.1 + 0), .int a1, .int a2] : List Value).toArray below meth c H locs 0 0 (MQ below (cI E (fun v ρ1 => CI r S0 ρ1)) ([.ref (E.2.1 + 0), .int a1, .int a2] : List Value).toArray s 0 0 (hA E)) (F0 m 21 ls []) := by
    intro ls ρ H locs  hl hP hS hI
    refine lv_aload_n hx hb dX6_leave_21 rfl (lv_at hl 0 rfl) ?_
    refine lv_bipush (v := (-2)) hx hb dX6_leave_22 (by decide) ?_
    refine call_i (cVt (k := 0) (av := [.int (-2)]) (rest := []) B hP hS (d_X6_refuse l E ρ r (-2) hI) lk_RX6_58 (hrecv (ci := 6) B hP (hk_lt (c := 6) (show hk 0 = 6 by decide +kernel) (by decide)) (hcc6 _ _ (show hk 0 = 6 by decide +kernel)) rfl) rfl rfl hl.1 (Nat.le_of_ble_eq_true rfl) ⟨Nat.le_of_ble_eq_true rfl, Nat.le_of_ble_eq_true rfl⟩ ⟨Nat.le_of_ble_eq_true rfl, Nat.le_of_ble_eq_true rfl⟩ dX6_leave_24) hS (fun r32 ρ33 H locs q34 hP hS => ?_)
    have hI := q34
    exact ret_i B hr hlk hP hS dX6_leave_27 (hI)
  refine lv_aload_n hx hb dX6_leave_0 rfl (lv_at hl 0 rfl) ?_
  refine get6 B hP (show hk 0 = 6 by decide +kernel) 0 (by decide) mw_412 rfl dX6_leave_1 ?_
  refine lv_iload_n hx hb dX6_leave_4 rfl (lv_at hl 1 rfl) ?_
  refine call_q (cVt (k := 1) (av := [.int a1]) (rest := []) B hP hS (d_X5_netAt l E ρ r S0 hS0 1 (show hk 1 = 5 by decide +kernel) a1 hI) lk_RX6_95 (hrecv (ci := 5) B hP (hk_lt (c := 5) (show hk 1 = 5 by decide +kernel) (by decide)) (hcc5 _ _ (show hk 1 = 5 by decide +kernel)) rfl) rfl rfl hl.1 (Nat.le_of_ble_eq_true rfl) ⟨Nat.le_of_ble_eq_true rfl, Nat.le_of_ble_eq_true rfl⟩ ⟨Nat.le_of_ble_eq_true rfl, Nat.le_of_ble_eq_true rfl⟩ dX6_leave_5) hS (fun r36 ρ37 H locs q38 hP hS => ?_)
  obtain ⟨rfl, hI, q38⟩ := q38
  rcases q38 with rfl | ⟨j39, rfl, ej39, uj39⟩
  · skip
    refine W.eq (g2 := F0 m 8 ls [.null]) rfl ?_
    refine lv_astore_nN (lv' := [(3, .null), (0, .ref (E.2.1 + 0)), (1, .int a1), (2, .int a2)]) hx hb dX6_leave_8 rfl hl (by decide) rfl (fun ls hl => ?_)
    refine lv_aload_nN hx hb dX6_leave_9 rfl (lv_at hl 0 rfl) ?_
    refine lv_ifnullN (tgt := 21) hx hb dX6_leave_10 (by decide) ?_
    exact b21_0 ls ρ _ _  (lv_sub hl [1] rfl) hP hS hI 
  · skip
    refine W.eq (g2 := F0 m 8 ls [.ref (E.2.1 + (5 + 1 + 42 * j39))]) rfl ?_
    refine lv_astore_n (lv' := [(3, .ref (E.2.1 + (5 + 1 + 42 * j39))), (0, .ref (E.2.1 + 0)), (1, .int a1), (2, .int a2)]) hx hb dX6_leave_8 rfl hl (by decide) rfl (fun ls hl => ?_)
    refine lv_aload_n hx hb dX6_leave_9 rfl (lv_at hl 0 rfl) ?_
    refine lv_ifnull hx hb dX6_leave_10 ?_
    refine lv_aload_n hx hb dX6_leave_13 rfl (lv_at hl 0 rfl) ?_
    refine lv_iload_n hx hb dX6_leave_14 rfl (lv_at hl 3 rfl) ?_
    refine call_q (cVt (k := (5 + 1 + 42 * j39)) (av := [.int a2]) (rest := []) B hP hS (d_X2_linkAt l E ρ r S0 hS0 (5 + 1 + 42 * j39) (lay5n (k := 1) (n := j39) (by decide +kernel) uj39) a2 hI) lk_RX6_109 (hrecv (ci := 2) B hP (hk_lt (c := 2) (lay5n (k := 1) (n := j39) (by decide +kernel) uj39) (by decide)) (hcc2 _ _ (lay5n (k := 1) (n := j39) (by decide +kernel) uj39)) rfl) rfl rfl hl.1 (Nat.le_of_ble_eq_true rfl) ⟨Nat.le_of_ble_eq_true rfl, Nat.le_of_ble_eq_true rfl⟩ ⟨Nat.le_of_ble_eq_true rfl, Nat.le_of_ble_eq_true rfl⟩ dX6_leave_15) hS (fun r41 ρ42 H locs q43 hP hS => ?_)
    obtain ⟨rfl, hI, q43⟩ := q43
    rcases q43 with rfl | ⟨j44, k45, rfl, hk45, ej44, uj44, gj44⟩
    · skip
      refine W.eq (g2 := F0 m 18 ls [.null]) rfl ?_
      refine lv_ifnonnullN hx hb dX6_leave_18 ?_
      exact b21_0 ls ρ _ _  (lv_sub hl [1] rfl) hP hS hI 
    · skip
      refine W.eq (g2 := F0 m 18 ls [.ref (E.2.1 + k45)]) rfl ?_
      have i46 : iR (ρ (5 + 1 + 42 * j39) 8) 1 4 := iR_w gj44 (by omega) (by omega)
      refine lv_ifnonnull (tgt := 28) hx hb dX6_leave_18 (by decide) ?_
      refine lv_aload_n hx hb dX6_leave_28 rfl (lv_at hl 1 rfl) ?_
      refine lv_iconst (v := 3) hx hb dX6_leave_29 (by decide) ?_
      refine call_v (cVt (k := 0) (av := [.int 3]) (rest := []) B hP hS (d_X6_keepForUndo l E ρ r S0 hS0 3 hI (fun _ q => q.elim)) lk_RX6_65 (hrecv (ci := 6) B hP (hk_lt (c := 6) (show hk 0 = 6 by decide +kernel) (by decide)) (hcc6 _ _ (show hk 0 = 6 by decide +kernel)) rfl) rfl rfl hl.1 (Nat.le_of_ble_eq_true rfl) ⟨Nat.le_of_ble_eq_true rfl, Nat.le_of_ble_eq_true rfl⟩ ⟨Nat.le_of_ble_eq_true rfl, Nat.le_of_ble_eq_true rfl⟩ dX6_leave_30) hS (fun ρ48 H locs q49 hP hS => ?_)
      have hI := q49
      refine lv_aload_n hx hb dX6_leave_33 rfl (lv_at hl 0 rfl) ?_
      refine lv_iload_n hx hb dX6_leave_34 rfl (lv_at hl 3 rfl) ?_
      refine lv_topi (fun z51 ez51 => ?_)
      obtain rfl : z51 = nI j44 := ez51.trans ej44
      refine call_v (cVt (k := (5 + 1 + 42 * j39)) (av := [.int (nI j44)]) (rest := []) B hP hS (d_X2_removeMember l E ρ48 r (5 + 1 + 42 * j39) (lay5n (k := 1) (n := j39) (by decide +kernel) uj39) (nI j44) hI) lk_RX6_113 (hrecv (ci := 2) B hP (hk_lt (c := 2) (lay5n (k := 1) (n := j39) (by decide +kernel) uj39) (by decide)) (hcc2 _ _ (lay5n (k := 1) (n := j39) (by decide +kernel) uj39)) rfl) rfl rfl hl.1 (Nat.le_of_ble_eq_true rfl) ⟨Nat.le_of_ble_eq_true rfl, Nat.le_of_ble_eq_true rfl⟩ ⟨Nat.le_of_ble_eq_true rfl, Nat.le_of_ble_eq_true rfl⟩ dX6_leave_35) hS (fun ρ53 H locs q54 hP hS => ?_)
      have hI := q54
      refine lv_aload_n hx hb dX6_leave_38 rfl (lv_at hl 1 rfl) ?_
      refine lv_aload_n hx hb dX6_leave_39 rfl (lv_at hl 0 rfl) ?_
      refine get2 B hP (lay5n (k := 1) (n := j39) (by decide +kernel) uj39) 8 (by decide) mw_304 rfl dX6_leave_40 ?_
      have i56 : iR (ρ53 (5 + 1 + 42 * j39) 8) 0 4 := CI_get hI (kind_lt (lay5n (k := 1) (n := j39) (by decide +kernel) uj39) (by decide)) (lay5n (k := 1) (n := j39) (by decide +kernel) uj39) rfl
      obtain ⟨j57, lj57, uj57, ej57⟩ := iR_nat (a := 0) (b := 4) i56
      refine lv_topi (fun z58 ez58 => ?_)
      obtain rfl : z58 = nI j57 := ez58.trans ej57
      refine call_i (cVt (k := 0) (av := [.int (nI j57)]) (rest := []) B hP hS (d_X6_accept l E ρ53 r (nI j57) hI) lk_RX6_72 (hrecv (ci := 6) B hP (hk_lt (c := 6) (show hk 0 = 6 by decide +kernel) (by decide)) (hcc6 _ _ (show hk 0 = 6 by decide +kernel)) rfl) rfl rfl hl.1 (Nat.le_of_ble_eq_true rfl) ⟨Nat.le_of_ble_eq_true rfl, Nat.le_of_ble_eq_true rfl⟩ ⟨Nat.le_of_ble_eq_true rfl, Nat.le_of_ble_eq_true rfl⟩ dX6_leave_43) hS (fun r59 ρ60 H locs q61 hP hS => ?_)
      have hI := q61
      exact ret_i B hr hlk hP hS dX6_leave_46 (hI)

set_option maxHeartbeats 4000000 in
set_option maxRecDepth 100000 in
theorem d_X6_noise (l : Launch) (E : hE) (ρ r : Nat → Nat → Int32) (a1 : Int32) (a2 : Int32) (hI : CI r S0 ρ) : Met l yX6_noise (.code yX6_noise cX6_noise 4 (some .int) :: gw_all) (rmk 7 280) (cPre E ρ [.ref (E.2.1 + 0), .int a1, .int a2]) (cI E (fun v ρ1 => CI r S0 ρ1)) 0 0 (hA E) := by
  refine ent (own := RX6) (by decide) rfl (Nat.le_of_ble_eq_true rfl) ?_
  intro p e s m below meth c ls B hr hlk hl hP hS
  have hx := B.1.1
  have hb := B.1.2.1
  have hown := B.1.2.2.2.1
  have hts := B.1.2.2.2.2
  have hl : lv_has ls 4 [(0, .ref (E.2.1 + 0)), (1, .int a1), (2, .int a2)] := hl
  have b20_0 : ∀ (ls : Array Slot) (ρ : Nat → Nat → Int32) (H : Heap) (locs : List Loc) , lv_has ls 4 [(0, .ref (E.2.1 + 0))] → WP E ρ H → va_S (hA E) s.heap H locs → CI r S0 ρ → W p l e (rmk 7 280) s m ([.ref (E.2.1 + 0), .int a1, .int a2] : List Value).toArray below meth c H locs 0 0 (MQ below (cI E (fun v ρ1 => CI r S0 ρ1)) ([.ref (E.2.1 + 0), .int a1, .int a2] : List Value).toArray s 0 0 (hA E)) (F0 m 20 ls []) := by
    intro ls ρ H locs  hl hP hS hI
    refine lv_aload_n hx hb dX6_noise_20 rfl (lv_at hl 0 rfl) ?_
    refine lv_iconst (v := (-1)) hx hb dX6_noise_21 (by decide) ?_
    refine call_i (cVt (k := 0) (av := [.int (-1)]) (rest := []) B hP hS (d_X6_refuse l E ρ r (-1) hI) lk_RX6_58 (hrecv (ci := 6) B hP (hk_lt (c := 6) (show hk 0 = 6 by decide +kernel) (by decide)) (hcc6 _ _ (show hk 0 = 6 by decide +kernel)) rfl) rfl rfl hl.1 (Nat.le_of_ble_eq_true rfl) ⟨Nat.le_of_ble_eq_true rfl, Nat.le_of_ble_eq_true rfl⟩ ⟨Nat.le_of_ble_eq_true rfl, Nat.le_of_ble_eq_true rfl⟩ dX6_noise_22) hS (fun r30 ρ31 H locs q32 hP hS => ?_)
    have hI := q32
    exact ret_i B hr hlk hP hS dX6_noise_25 (hI)
  refine lv_iload_n hx hb dX6_noise_0 rfl (lv_at hl 1 rfl) ?_
  refine lv_iconst (v := 0) hx hb dX6_noise_1 (by decide) ?_
  refine lv_bipush (v := 22) hx hb dX6_noise_2 (by decide) ?_
  refine call_i (cS (av := [.int a1, .int 0, .int 22]) (rest := []) B hP hS (c_isWithin l E ρ a1 0 22 0 22 (by decide) (by decide)) lk_RX6_54 rfl rfl hl.1 (Nat.le_of_ble_eq_true rfl) ⟨Nat.le_of_ble_eq_true rfl, Nat.le_of_ble_eq_true rfl⟩ ⟨Nat.le_of_ble_eq_true rfl, Nat.le_of_ble_eq_true rfl⟩ dX6_noise_4) hS (fun r34 ρ35 H locs q36 hP hS => ?_)
  obtain ⟨rfl, q36⟩ := q36
  rcases q36 with ⟨rfl, q36⟩ | ⟨rfl, q36⟩
  · skip
    refine lv_if_eq (tgt := 20) hx hb dX6_noise_7 (by decide) (fun c37 => absurd c37 (iR_ne (show iR 1 (1) (1) from ⟨by decide, by decide⟩) (show iR 0 (0) (0) from ⟨by decide, by decide⟩) (by decide))) (fun _ => ?_)
    refine lv_iload_n hx hb dX6_noise_10 rfl (lv_at hl 2 rfl) ?_
    refine lv_iconst (v := 0) hx hb dX6_noise_11 (by decide) ?_
    refine lv_bipush (v := 16) hx hb dX6_noise_12 (by decide) ?_
    refine call_i (cS (av := [.int a2, .int 0, .int 16]) (rest := []) B hP hS (c_isWithin l E ρ a2 0 16 0 16 (by decide) (by decide)) lk_RX6_54 rfl rfl hl.1 (Nat.le_of_ble_eq_true rfl) ⟨Nat.le_of_ble_eq_true rfl, Nat.le_of_ble_eq_true rfl⟩ ⟨Nat.le_of_ble_eq_true rfl, Nat.le_of_ble_eq_true rfl⟩ dX6_noise_14) hS (fun r38 ρ39 H locs q40 hP hS => ?_)
    obtain ⟨rfl, q40⟩ := q40
    rcases q40 with ⟨rfl, q40⟩ | ⟨rfl, q40⟩
    · skip
      refine lv_if_ne (tgt := 26) hx hb dX6_noise_17 (by decide) (fun _ => ?_) (fun c41 => absurd c41 (iR_ne (show iR 1 (1) (1) from ⟨by decide, by decide⟩) (show iR 0 (0) (0) from ⟨by decide, by decide⟩) (by decide)))
      refine lv_aload_n hx hb dX6_noise_26 rfl (lv_at hl 0 rfl) ?_
      refine lv_iconst (v := 4) hx hb dX6_noise_27 (by decide) ?_
      refine call_v (cVt (k := 0) (av := [.int 4]) (rest := []) B hP hS (d_X6_keepForUndo l E ρ r S0 hS0 4 hI (fun _ q => q.elim)) lk_RX6_65 (hrecv (ci := 6) B hP (hk_lt (c := 6) (show hk 0 = 6 by decide +kernel) (by decide)) (hcc6 _ _ (show hk 0 = 6 by decide +kernel)) rfl) rfl rfl hl.1 (Nat.le_of_ble_eq_true rfl) ⟨Nat.le_of_ble_eq_true rfl, Nat.le_of_ble_eq_true rfl⟩ ⟨Nat.le_of_ble_eq_true rfl, Nat.le_of_ble_eq_true rfl⟩ dX6_noise_28) hS (fun ρ43 H locs q44 hP hS => ?_)
      have hI := q44
      refine lv_aload_n hx hb dX6_noise_31 rfl (lv_at hl 0 rfl) ?_
      refine get6 B hP (show hk 0 = 6 by decide +kernel) 0 (by decide) mw_412 rfl dX6_noise_32 ?_
      refine get5 B hP (show hk 1 = 5 by decide +kernel) 1 (by decide) mw_374 rfl dX6_noise_35 ?_
      refine lv_iload_n hx hb dX6_noise_38 rfl (lv_at hl 1 rfl) ?_
      obtain ⟨j46, lj46, uj46, ej46⟩ := iR_nat (a := 0) (b := 22) q36
      refine lv_topi (fun z47 ez47 => ?_)
      obtain rfl : z47 = nI j46 := ez47.trans ej46
      refine aldn (n := 23) (j := j46) B hP (show hk 3 = 8 by decide +kernel) (show hlen 3 = 23 by decide +kernel) rfl (by omega) (by decide) dX6_noise_39 ?_
      refine lv_istore_n (lv' := [(3, .int (ρ43 3 j46)), (0, .ref (E.2.1 + 0)), (1, .int a1), (2, .int a2)]) hx hb dX6_noise_40 rfl hl (by decide) rfl (fun ls hl => ?_)
      refine lv_aload_n hx hb dX6_noise_41 rfl (lv_at hl 1 rfl) ?_
      refine get6 B hP (show hk 0 = 6 by decide +kernel) 0 (by decide) mw_412 rfl dX6_noise_42 ?_
      refine get5 B hP (show hk 1 = 5 by decide +kernel) 1 (by decide) mw_374 rfl dX6_noise_45 ?_
      refine lv_iload_n hx hb dX6_noise_48 rfl (lv_at hl 2 rfl) ?_
      refine lv_topi (fun z48 ez48 => ?_)
      obtain rfl : z48 = nI j46 := ez48.trans ej46
      refine lv_iload_n hx hb dX6_noise_49 rfl (lv_at hl 3 rfl) ?_
      obtain ⟨j49, lj49, uj49, ej49⟩ := iR_nat (a := 0) (b := 16) q40
      refine lv_topi (fun z50 ez50 => ?_)
      obtain rfl : z50 = nI j49 := ez50.trans ej49
      refine astn (n := 23) (j := j46) B hP hS (show hk 3 = 8 by decide +kernel) (show hlen 3 = 23 by decide +kernel) rfl (by omega) (by decide) dX6_noise_50 (fun H locs hP hS => ?_)
      obtain ⟨ρ51, e52⟩ : ∃ z, z = up ρ43 3 j46 (nI j49) := ⟨_, rfl⟩
      rw [← e52] at hP
      have hI : CI r S0 ρ51 := by rw [e52]; exact CI_up hI (by decide) (SP_plain (show hk 3 = 8 by decide +kernel) rfl (by decide)) ⟨(fun z2 => absurd (Eq.trans (Eq.symm (show hk 3 = 8 by decide +kernel)) z2) (by decide)), (fun z2 => absurd (Eq.trans (Eq.symm (show hk 3 = 8 by decide +kernel)) z2) (by decide))⟩ hS0
      refine lv_aload_n hx hb dX6_noise_51 rfl (lv_at hl 1 rfl) ?_
      refine lv_iload_n hx hb dX6_noise_52 rfl (lv_at hl 0 rfl) ?_
      refine call_i (cVt (k := 0) (av := [.int (ρ43 3 j46)]) (rest := []) B hP hS (d_X6_accept l E ρ51 r (ρ43 3 j46) hI) lk_RX6_72 (hrecv (ci := 6) B hP (hk_lt (c := 6) (show hk 0 = 6 by decide +kernel) (by decide)) (hcc6 _ _ (show hk 0 = 6 by decide +kernel)) rfl) rfl rfl hl.1 (Nat.le_of_ble_eq_true rfl) ⟨Nat.le_of_ble_eq_true rfl, Nat.le_of_ble_eq_true rfl⟩ ⟨Nat.le_of_ble_eq_true rfl, Nat.le_of_ble_eq_true rfl⟩ dX6_noise_53) hS (fun r53 ρ54 H locs q55 hP hS => ?_)
      have hI := q55
      exact ret_i B hr hlk hP hS dX6_noise_56 (hI)
    · skip
      refine lv_if_ne (tgt := 26) hx hb dX6_noise_17 (by decide) (fun c57 => absurd rfl c57) (fun _ => ?_)
      exact b20_0 ls ρ _ _  (lv_sub hl [0] rfl) hP hS hI 
  · skip
    refine lv_if_eq (tgt := 20) hx hb dX6_noise_7 (by decide) (fun _ => ?_) (fun c58 => absurd rfl c58)
    exact b20_0 ls ρ _ _  (lv_sub hl [0] rfl) hP hS hI 

theorem lk_RX6_119 : LkS RX6 119 yX6_isTerm cX6_isTerm 2 (some .boolean) 2 := ⟨⟨mw_561, mw_562, mw_52, mw_563⟩, by decide +kernel⟩
set_option maxHeartbeats 4000000 in
set_option maxRecDepth 100000 in
theorem d_X6_terms (l : Launch) (E : hE) (ρ r : Nat → Nat → Int32) (a1 : Int32) (a2 : Int32) (hI : CI r S0 ρ) : Met l yX6_terms (.code yX6_terms cX6_terms 4 (some .int) :: gw_all) (rmk 7 280) (cPre E ρ [.ref (E.2.1 + 0), .int a1, .int a2]) (cI E (fun v ρ1 => CI r S0 ρ1)) 0 0 (hA E) := by
  refine ent (own := RX6) (by decide) rfl (Nat.le_of_ble_eq_true rfl) ?_
  intro p e s m below meth c ls B hr hlk hl hP hS
  have hx := B.1.1
  have hb := B.1.2.1
  have hown := B.1.2.2.2.1
  have hts := B.1.2.2.2.2
  have hl : lv_has ls 4 [(0, .ref (E.2.1 + 0)), (1, .int a1), (2, .int a2)] := hl
  have b82_0 : ∀ (ls : Array Slot) (ρ : Nat → Nat → Int32) (H : Heap) (locs : List Loc) (x82_3 : Int32), lv_has ls 4 [(0, .ref (E.2.1 + 0)), (3, .int x82_3)] → WP E ρ H → va_S (hA E) s.heap H locs → CI r S0 ρ → iR x82_3 (-2147483648) (2147483647) → W p l e (rmk 7 280) s m ([.ref (E.2.1 + 0), .int a1, .int a2] : List Value).toArray below meth c H locs 0 0 (MQ below (cI E (fun v ρ1 => CI r S0 ρ1)) ([.ref (E.2.1 + 0), .int a1, .int a2] : List Value).toArray s 0 0 (hA E)) (F0 m 82 ls []) := by
    intro ls ρ H locs x82_3 hl hP hS hI hx82_3
    refine lv_aload_n hx hb dX6_terms_82 rfl (lv_at hl 0 rfl) ?_
    refine lv_iload_n hx hb dX6_terms_83 rfl (lv_at hl 1 rfl) ?_
    refine call_i (cVt (k := 0) (av := [.int x82_3]) (rest := []) B hP hS (d_X6_accept l E ρ r x82_3 hI) lk_RX6_72 (hrecv (ci := 6) B hP (hk_lt (c := 6) (show hk 0 = 6 by decide +kernel) (by decide)) (hcc6 _ _ (show hk 0 = 6 by decide +kernel)) rfl) rfl rfl hl.1 (Nat.le_of_ble_eq_true rfl) ⟨Nat.le_of_ble_eq_true rfl, Nat.le_of_ble_eq_true rfl⟩ ⟨Nat.le_of_ble_eq_true rfl, Nat.le_of_ble_eq_true rfl⟩ dX6_terms_84) hS (fun r32 ρ33 H locs q34 hP hS => ?_)
    have hI := q34
    exact ret_i B hr hlk hP hS dX6_terms_87 (hI)
  refine lv_iload_n hx hb dX6_terms_0 rfl (lv_at hl 1 rfl) ?_
  refine lv_iload_n hx hb dX6_terms_1 rfl (lv_at hl 2 rfl) ?_
  refine call_i (cS (av := [.int a1, .int a2]) (rest := []) B hP hS (d_X6_isTerm l E ρ r S0 hS0 a1 a2 hI) lk_RX6_119 rfl rfl hl.1 (Nat.le_of_ble_eq_true rfl) ⟨Nat.le_of_ble_eq_true rfl, Nat.le_of_ble_eq_true rfl⟩ ⟨Nat.le_of_ble_eq_true rfl, Nat.le_of_ble_eq_true rfl⟩ dX6_terms_2) hS (fun r36 ρ37 H locs q38 hP hS => ?_)
  obtain ⟨rfl, hI, i39⟩ := q38
  obtain ⟨j40, lj40, uj40, ej40⟩ := iR_nat (a := 0) (b := 1) i39
  refine lv_topi (fun z41 ez41 => ?_)
  obtain rfl : z41 = nI j40 := ez41.trans ej40
  refine lv_if_ne (tgt := 14) hx hb dX6_terms_5 (by decide) (fun c42 => ?_) (fun c42 => ?_)
  · skip
    have n43 := mt (nI_eq (a := j40) (b := 0) (by omega) (by omega)).mpr (show ¬ (nI j40 = nI 0) from c42)
    refine lv_aload_n hx hb dX6_terms_14 rfl (lv_at hl 0 rfl) ?_
    refine lv_iconst (v := 5) hx hb dX6_terms_15 (by decide) ?_
    refine call_v (cVt (k := 0) (av := [.int 5]) (rest := []) B hP hS (d_X6_keepForUndo l E ρ r S0 hS0 5 hI (fun _ q => q.elim)) lk_RX6_65 (hrecv (ci := 6) B hP (hk_lt (c := 6) (show hk 0 = 6 by decide +kernel) (by decide)) (hcc6 _ _ (show hk 0 = 6 by decide +kernel)) rfl) rfl rfl hl.1 (Nat.le_of_ble_eq_true rfl) ⟨Nat.le_of_ble_eq_true rfl, Nat.le_of_ble_eq_true rfl⟩ ⟨Nat.le_of_ble_eq_true rfl, Nat.le_of_ble_eq_true rfl⟩ dX6_terms_16) hS (fun ρ45 H locs q46 hP hS => ?_)
    have hI := q46
    refine lv_iload_n hx hb dX6_terms_19 rfl (lv_at hl 1 rfl) ?_
    refine lv_if_ne (tgt := 42) hx hb dX6_terms_20 (by decide) (fun c48 => ?_) (fun c48 => ?_)
    · skip
      refine lv_iload_n hx hb dX6_terms_42 rfl (lv_at hl 1 rfl) ?_
      refine lv_iconst (v := 1) hx hb dX6_terms_43 (by decide) ?_
      refine lv_icmp_ne (tgt := 66) hx hb dX6_terms_44 (by decide) (fun c49 => ?_) (fun c49 => ?_)
      · skip
        refine lv_aload_n hx hb dX6_terms_66 rfl (lv_at hl 0 rfl) ?_
        refine get6 B hP (show hk 0 = 6 by decide +kernel) 0 (by decide) mw_412 rfl dX6_terms_67 ?_
        refine get5 B hP (show hk 1 = 5 by decide +kernel) 8 (by decide) mw_388 rfl dX6_terms_70 ?_
        refine lv_istore_n (lv' := [(3, .int (ρ45 1 8)), (0, .ref (E.2.1 + 0)), (1, .int a1), (2, .int a2)]) hx hb dX6_terms_73 rfl hl (by decide) rfl (fun ls hl => ?_)
        refine lv_aload_n hx hb dX6_terms_74 rfl (lv_at hl 1 rfl) ?_
        refine get6 B hP (show hk 0 = 6 by decide +kernel) 0 (by decide) mw_412 rfl dX6_terms_75 ?_
        refine lv_iload_n hx hb dX6_terms_78 rfl (lv_at hl 3 rfl) ?_
        refine put5 B hP hS (show hk 1 = 5 by decide +kernel) 8 (by decide) mw_388 rfl rfl rfl (fs5_8 E 1 _ _) dX6_terms_79 (fun H locs hP hS => ?_)
        obtain ⟨ρ50, e51⟩ : ∃ z, z = up ρ45 1 8 a2 := ⟨_, rfl⟩
        rw [← e51] at hP
        have hI : CI r S0 ρ50 := by rw [e51]; exact CI_up hI (by decide) (SP_plain (show hk 1 = 5 by decide +kernel) rfl (by decide)) ⟨(fun z2 => absurd (Eq.trans (Eq.symm (show hk 1 = 5 by decide +kernel)) z2) (by decide)), (fun _ => by decide)⟩ hS0
        exact b82_0 ls ρ50 _ _ ((ρ45 1 8) : Int32) (lv_sub hl [1, 0] rfl) hP hS hI (iR_w (iR_any (ρ45 1 8)) (by decide) (by decide))
      · skip
        have i52 : iR a1 (1) (1) := (by rw [c49]; exact ⟨by decide, by decide⟩)
        refine lv_aload_n hx hb dX6_terms_47 rfl (lv_at hl 0 rfl) ?_
        refine get6 B hP (show hk 0 = 6 by decide +kernel) 0 (by decide) mw_412 rfl dX6_terms_48 ?_
        refine get5 B hP (show hk 1 = 5 by decide +kernel) 7 (by decide) mw_386 rfl dX6_terms_51 ?_
        refine lv_istore_n (lv' := [(3, .int (ρ45 1 7)), (0, .ref (E.2.1 + 0)), (1, .int a1), (2, .int a2)]) hx hb dX6_terms_54 rfl hl (by decide) rfl (fun ls hl => ?_)
        refine lv_aload_n hx hb dX6_terms_55 rfl (lv_at hl 1 rfl) ?_
        refine get6 B hP (show hk 0 = 6 by decide +kernel) 0 (by decide) mw_412 rfl dX6_terms_56 ?_
        refine lv_iload_n hx hb dX6_terms_59 rfl (lv_at hl 3 rfl) ?_
        refine put5 B hP hS (show hk 1 = 5 by decide +kernel) 7 (by decide) mw_386 rfl rfl rfl (fs5_7 E 1 _ _) dX6_terms_60 (fun H locs hP hS => ?_)
        obtain ⟨ρ53, e54⟩ : ∃ z, z = up ρ45 1 7 a2 := ⟨_, rfl⟩
        rw [← e54] at hP
        have hI : CI r S0 ρ53 := by rw [e54]; exact CI_up hI (by decide) (SP_plain (show hk 1 = 5 by decide +kernel) rfl (by decide)) ⟨(fun z2 => absurd (Eq.trans (Eq.symm (show hk 1 = 5 by decide +kernel)) z2) (by decide)), (fun _ => by decide)⟩ hS0
        refine lv_goto (tgt := 82) hx hb dX6_terms_63 (by decide) ?_
        exact b82_0 ls ρ53 _ _ ((ρ45 1 7) : Int32) (lv_sub hl [1, 0] rfl) hP hS hI (iR_w (iR_any (ρ45 1 7)) (by decide) (by decide))
    · skip
      have i55 : iR a1 (0) (0) := (by rw [c48]; exact ⟨by decide, by decide⟩)
      refine lv_aload_n hx hb dX6_terms_23 rfl (lv_at hl 0 rfl) ?_
      refine get6 B hP (show hk 0 = 6 by decide +kernel) 0 (by decide) mw_412 rfl dX6_terms_24 ?_
      refine get5 B hP (show hk 1 = 5 by decide +kernel) 6 (by decide) mw_384 rfl dX6_terms_27 ?_
      refine lv_istore_n (lv' := [(3, .int (ρ45 1 6)), (0, .ref (E.2.1 + 0)), (1, .int a1), (2, .int a2)]) hx hb dX6_terms_30 rfl hl (by decide) rfl (fun ls hl => ?_)
      refine lv_aload_n hx hb dX6_terms_31 rfl (lv_at hl 1 rfl) ?_
      refine get6 B hP (show hk 0 = 6 by decide +kernel) 0 (by decide) mw_412 rfl dX6_terms_32 ?_
      refine lv_iload_n hx hb dX6_terms_35 rfl (lv_at hl 3 rfl) ?_
      refine put5 B hP hS (show hk 1 = 5 by decide +kernel) 6 (by decide) mw_384 rfl rfl rfl (fs5_6 E 1 _ _) dX6_terms_36 (fun H locs hP hS => ?_)
      obtain ⟨ρ56, e57⟩ : ∃ z, z = up ρ45 1 6 a2 := ⟨_, rfl⟩
      rw [← e57] at hP
      have hI : CI r S0 ρ56 := by rw [e57]; exact CI_up hI (by decide) (SP_plain (show hk 1 = 5 by decide +kernel) rfl (by decide)) ⟨(fun z2 => absurd (Eq.trans (Eq.symm (show hk 1 = 5 by decide +kernel)) z2) (by decide)), (fun _ => by decide)⟩ hS0
      refine lv_goto (tgt := 82) hx hb dX6_terms_39 (by decide) ?_
      exact b82_0 ls ρ56 _ _ ((ρ45 1 6) : Int32) (lv_sub hl [1, 0] rfl) hP hS hI (iR_w (iR_any (ρ45 1 6)) (by decide) (by decide))
  · skip
    have n58 := (nI_eq (a := j40) (b := 0) (by omega) (by omega)).mp (show (nI j40 = nI 0) from c42)
    refine lv_aload_n hx hb dX6_terms_8 rfl (lv_at hl 0 rfl) ?_
    refine lv_iconst (v := (-1)) hx hb dX6_terms_9 (by decide) ?_
    refine call_i (cVt (k := 0) (av := [.int (-1)]) (rest := []) B hP hS (d_X6_refuse l E ρ r (-1) hI) lk_RX6_58 (hrecv (ci := 6) B hP (hk_lt (c := 6) (show hk 0 = 6 by decide +kernel) (by decide)) (hcc6 _ _ (show hk 0 = 6 by decide +kernel)) rfl) rfl rfl hl.1 (Nat.le_of_ble_eq_true rfl) ⟨Nat.le_of_ble_eq_true rfl, Nat.le_of_ble_eq_true rfl⟩ ⟨Nat.le_of_ble_eq_true rfl, Nat.le_of_ble_eq_true rfl⟩ dX6_terms_10) hS (fun r59 ρ60 H locs q61 hP hS => ?_)
    have hI := q61
    exact ret_i B hr hlk hP hS dX6_terms_13 (hI)

theorem lk_RX6_132 : LkV RX6 132 RX5 yX5_linkAt cX5_linkAt 4 (some (.object "HopNet$Link")) 2 := ⟨⟨mw_572, mw_573, mw_574, mw_53, mw_575⟩, by decide +kernel⟩
theorem lk_RX6_144 : LkV RX6 144 RX4 yX4_isFull cX4_isFull 1 (some .boolean) 0 := ⟨⟨mw_578, mw_579, mw_580, mw_57, mw_581⟩, by decide +kernel⟩
theorem lk_RX6_150 : LkV RX6 150 RX4 yX4_append cX4_append 3 none 2 := ⟨⟨mw_582, mw_583, mw_584, mw_57, mw_585⟩, by decide +kernel⟩
set_option maxHeartbeats 4000000 in
set_option maxRecDepth 100000 in
theorem d_X6_put (l : Launch) (E : hE) (ρ r : Nat → Nat → Int32) (a1 : Int32) (a2 : Int32) (a3 : Int32) (a4 : Int32) (hI : CI r S0 ρ) : Met l yX6_put (.code yX6_put cX6_put 7 (some .int) :: gw_all) (rmk 7 280) (cPre E ρ [.ref (E.2.1 + 0), .int a1, .int a2, .int a3, .int a4]) (cI E (fun v ρ1 => CI r S0 ρ1)) 0 0 (hA E) := by
  refine ent (own := RX6) (by decide) rfl (Nat.le_of_ble_eq_true rfl) ?_
  intro p e s m below meth c ls B hr hlk hl hP hS
  have hx := B.1.1
  have hb := B.1.2.1
  have hown := B.1.2.2.2.1
  have hts := B.1.2.2.2.2
  have hl : lv_has ls 7 [(0, .ref (E.2.1 + 0)), (1, .int a1), (2, .int a2), (3, .int a3), (4, .int a4)] := hl
  have b67_0 : ∀ (ls : Array Slot) (ρ : Nat → Nat → Int32) (H : Heap) (locs : List Loc) (k67_s0 : Nat), lv_has ls 7 [(0, .ref (E.2.1 + 0)), (4, .int a4)] → WP E ρ H → va_S (hA E) s.heap H locs → CI r S0 ρ → hk k67_s0 = 4 → iR a1 (0) (1) → iR a3 (0) (1) → iR a4 (0) (255) → W p l e (rmk 7 280) s m ([.ref (E.2.1 + 0), .int a1, .int a2, .int a3, .int a4] : List Value).toArray below meth c H locs 0 0 (MQ below (cI E (fun v ρ1 => CI r S0 ρ1)) ([.ref (E.2.1 + 0), .int a1, .int a2, .int a3, .int a4] : List Value).toArray s 0 0 (hA E)) (F0 m 67 ls [.ref (E.2.1 + k67_s0)]) := by
    intro ls ρ H locs k67_s0 hl hP hS hI hk67_s0 fa1 fa3 fa4
    refine lv_astore (lv' := [(6, .ref (E.2.1 + k67_s0)), (0, .ref (E.2.1 + 0)), (4, .int a4)]) hx hb dX6_put_67 hl (by decide) rfl (fun ls hl => ?_)
    refine lv_aload hx hb dX6_put_69 (lv_at hl 0 rfl) ?_
    refine call_i (cVt (k := k67_s0) (av := []) (rest := []) B hP hS (d_X4_isFull l E ρ r S0 hS0 k67_s0 hk67_s0 hI) lk_RX6_144 (hrecv (ci := 4) B hP (hk_lt (c := 4) hk67_s0 (by decide)) (hcc4 _ _ hk67_s0) rfl) rfl rfl hl.1 (Nat.le_of_ble_eq_true rfl) ⟨Nat.le_of_ble_eq_true rfl, Nat.le_of_ble_eq_true rfl⟩ ⟨Nat.le_of_ble_eq_true rfl, Nat.le_of_ble_eq_true rfl⟩ dX6_put_71) hS (fun r59 ρ60 H locs q61 hP hS => ?_)
    obtain ⟨rfl, hI, i62⟩ := q61
    obtain ⟨j63, lj63, uj63, ej63⟩ := iR_nat (a := 0) (b := 1) i62
    refine lv_topi (fun z64 ez64 => ?_)
    obtain rfl : z64 = nI j63 := ez64.trans ej63
    refine lv_if_eq (tgt := 84) hx hb dX6_put_74 (by decide) (fun c65 => ?_) (fun c65 => ?_)
    · skip
      have n66 := (nI_eq (a := j63) (b := 0) (by omega) (by omega)).mp (show (nI j63 = nI 0) from c65)
      refine lv_aload_n hx hb dX6_put_84 rfl (lv_at hl 1 rfl) ?_
      refine lv_bipush (v := 6) hx hb dX6_put_85 (by decide) ?_
      refine call_v (cVt (k := 0) (av := [.int 6]) (rest := []) B hP hS (d_X6_keepForUndo l E ρ r S0 hS0 6 hI (fun _ q => q.elim)) lk_RX6_65 (hrecv (ci := 6) B hP (hk_lt (c := 6) (show hk 0 = 6 by decide +kernel) (by decide)) (hcc6 _ _ (show hk 0 = 6 by decide +kernel)) rfl) rfl rfl hl.1 (Nat.le_of_ble_eq_true rfl) ⟨Nat.le_of_ble_eq_true rfl, Nat.le_of_ble_eq_true rfl⟩ ⟨Nat.le_of_ble_eq_true rfl, Nat.le_of_ble_eq_true rfl⟩ dX6_put_87) hS (fun ρ68 H locs q69 hP hS => ?_)
      have hI := q69
      refine lv_aload hx hb dX6_put_90 (lv_at hl 0 rfl) ?_
      refine lv_iload hx hb dX6_put_92 (lv_at hl 2 rfl) ?_
      obtain ⟨j71, lj71, uj71, ej71⟩ := iR_nat (a := 0) (b := 255) fa4
      refine lv_topi (fun z72 ez72 => ?_)
      obtain rfl : z72 = nI j71 := ez72.trans ej71
      refine lv_aload_n hx hb dX6_put_94 rfl (lv_at hl 1 rfl) ?_
      refine get6 B hP (show hk 0 = 6 by decide +kernel) 0 (by decide) mw_412 rfl dX6_put_95 ?_
      refine get5 B hP (show hk 1 = 5 by decide +kernel) 5 (by decide) mw_382 rfl dX6_put_98 ?_
      refine call_v (cVt (k := k67_s0) (av := [.int (nI j71), .int (ρ68 1 5)]) (rest := []) B hP hS (d_X4_append l E ρ68 r S0 hS0 k67_s0 hk67_s0 (nI j71) (ρ68 1 5) hI) lk_RX6_150 (hrecv (ci := 4) B hP (hk_lt (c := 4) hk67_s0 (by decide)) (hcc4 _ _ hk67_s0) rfl) rfl rfl hl.1 (Nat.le_of_ble_eq_true rfl) ⟨Nat.le_of_ble_eq_true rfl, Nat.le_of_ble_eq_true rfl⟩ ⟨Nat.le_of_ble_eq_true rfl, Nat.le_of_ble_eq_true rfl⟩ dX6_put_101) hS (fun ρ74 H locs q75 hP hS => ?_)
      have hI := q75
      refine lv_aload_n hx hb dX6_put_104 rfl (lv_at hl 1 rfl) ?_
      refine lv_aload hx hb dX6_put_105 (lv_at hl 0 rfl) ?_
      refine get4 B hP hk67_s0 2 (by decide) mw_130 rfl dX6_put_107 ?_
      have i77 : iR (ρ74 k67_s0 2) 0 8 := CI_get hI (kind_lt hk67_s0 (by decide)) hk67_s0 rfl
      obtain ⟨j78, lj78, uj78, ej78⟩ := iR_nat (a := 0) (b := 8) i77
      refine lv_topi (fun z79 ez79 => ?_)
      obtain rfl : z79 = nI j78 := ez79.trans ej78
      refine call_i (cVt (k := 0) (av := [.int (nI j78)]) (rest := []) B hP hS (d_X6_accept l E ρ74 r (nI j78) hI) lk_RX6_72 (hrecv (ci := 6) B hP (hk_lt (c := 6) (show hk 0 = 6 by decide +kernel) (by decide)) (hcc6 _ _ (show hk 0 = 6 by decide +kernel)) rfl) rfl rfl hl.1 (Nat.le_of_ble_eq_true rfl) ⟨Nat.le_of_ble_eq_true rfl, Nat.le_of_ble_eq_true rfl⟩ ⟨Nat.le_of_ble_eq_true rfl, Nat.le_of_ble_eq_true rfl⟩ dX6_put_110) hS (fun r80 ρ81 H locs q82 hP hS => ?_)
      have hI := q82
      exact ret_i B hr hlk hP hS dX6_put_113 (hI)
    · skip
      have n84 := mt (nI_eq (a := j63) (b := 0) (by omega) (by omega)).mpr (show ¬ (nI j63 = nI 0) from c65)
      refine lv_aload_n hx hb dX6_put_77 rfl (lv_at hl 1 rfl) ?_
      refine lv_bipush (v := (-5)) hx hb dX6_put_78 (by decide) ?_
      refine call_i (cVt (k := 0) (av := [.int (-5)]) (rest := []) B hP hS (d_X6_refuse l E ρ r (-5) hI) lk_RX6_58 (hrecv (ci := 6) B hP (hk_lt (c := 6) (show hk 0 = 6 by decide +kernel) (by decide)) (hcc6 _ _ (show hk 0 = 6 by decide +kernel)) rfl) rfl rfl hl.1 (Nat.le_of_ble_eq_true rfl) ⟨Nat.le_of_ble_eq_true rfl, Nat.le_of_ble_eq_true rfl⟩ ⟨Nat.le_of_ble_eq_true rfl, Nat.le_of_ble_eq_true rfl⟩ dX6_put_80) hS (fun r85 ρ86 H locs q87 hP hS => ?_)
      have hI := q87
      exact ret_i B hr hlk hP hS dX6_put_83 (hI)
  have b21_0 : ∀ (ls : Array Slot) (ρ : Nat → Nat → Int32) (H : Heap) (locs : List Loc) , lv_has ls 7 [(0, .ref (E.2.1 + 0))] → WP E ρ H → va_S (hA E) s.heap H locs → CI r S0 ρ → W p l e (rmk 7 280) s m ([.ref (E.2.1 + 0), .int a1, .int a2, .int a3, .int a4] : List Value).toArray below meth c H locs 0 0 (MQ below (cI E (fun v ρ1 => CI r S0 ρ1)) ([.ref (E.2.1 + 0), .int a1, .int a2, .int a3, .int a4] : List Value).toArray s 0 0 (hA E)) (F0 m 21 ls []) := by
    intro ls ρ H locs  hl hP hS hI
    refine lv_aload_n hx hb dX6_put_21 rfl (lv_at hl 0 rfl) ?_
    refine lv_iconst (v := (-1)) hx hb dX6_put_22 (by decide) ?_
    refine call_i (cVt (k := 0) (av := [.int (-1)]) (rest := []) B hP hS (d_X6_refuse l E ρ r (-1) hI) lk_RX6_58 (hrecv (ci := 6) B hP (hk_lt (c := 6) (show hk 0 = 6 by decide +kernel) (by decide)) (hcc6 _ _ (show hk 0 = 6 by decide +kernel)) rfl) rfl rfl hl.1 (Nat.le_of_ble_eq_true rfl) ⟨Nat.le_of_ble_eq_true rfl, Nat.le_of_ble_eq_true rfl⟩ ⟨Nat.le_of_ble_eq_true rfl, Nat.le_of_ble_eq_true rfl⟩ dX6_put_23) hS (fun r89 ρ90 H locs q91 hP hS => ?_)
    have hI := q91
    exact ret_i B hr hlk hP hS dX6_put_26 (hI)
  refine lv_iload_n hx hb dX6_put_0 rfl (lv_at hl 3 rfl) ?_
  refine lv_iconst (v := 0) hx hb dX6_put_1 (by decide) ?_
  refine lv_iconst (v := 1) hx hb dX6_put_2 (by decide) ?_
  refine call_i (cS (av := [.int a3, .int 0, .int 1]) (rest := []) B hP hS (c_isWithin l E ρ a3 0 1 0 1 (by decide) (by decide)) lk_RX6_54 rfl rfl hl.1 (Nat.le_of_ble_eq_true rfl) ⟨Nat.le_of_ble_eq_true rfl, Nat.le_of_ble_eq_true rfl⟩ ⟨Nat.le_of_ble_eq_true rfl, Nat.le_of_ble_eq_true rfl⟩ dX6_put_3) hS (fun r93 ρ94 H locs q95 hP hS => ?_)
  obtain ⟨rfl, q95⟩ := q95
  rcases q95 with ⟨rfl, q95⟩ | ⟨rfl, q95⟩
  · skip
    refine lv_if_eq (tgt := 21) hx hb dX6_put_6 (by decide) (fun c96 => absurd c96 (iR_ne (show iR 1 (1) (1) from ⟨by decide, by decide⟩) (show iR 0 (0) (0) from ⟨by decide, by decide⟩) (by decide))) (fun _ => ?_)
    refine lv_iload hx hb dX6_put_9 (lv_at hl 4 rfl) ?_
    refine lv_iconst (v := 0) hx hb dX6_put_11 (by decide) ?_
    refine lv_sipush (v := 255) hx hb dX6_put_12 (by decide) ?_
    refine call_i (cS (av := [.int a4, .int 0, .int 255]) (rest := []) B hP hS (c_isWithin l E ρ a4 0 255 0 255 (by decide) (by decide)) lk_RX6_54 rfl rfl hl.1 (Nat.le_of_ble_eq_true rfl) ⟨Nat.le_of_ble_eq_true rfl, Nat.le_of_ble_eq_true rfl⟩ ⟨Nat.le_of_ble_eq_true rfl, Nat.le_of_ble_eq_true rfl⟩ dX6_put_15) hS (fun r97 ρ98 H locs q99 hP hS => ?_)
    obtain ⟨rfl, q99⟩ := q99
    rcases q99 with ⟨rfl, q99⟩ | ⟨rfl, q99⟩
    · skip
      refine lv_if_ne (tgt := 27) hx hb dX6_put_18 (by decide) (fun _ => ?_) (fun c100 => absurd c100 (iR_ne (show iR 1 (1) (1) from ⟨by decide, by decide⟩) (show iR 0 (0) (0) from ⟨by decide, by decide⟩) (by decide)))
      refine lv_aload_n hx hb dX6_put_27 rfl (lv_at hl 0 rfl) ?_
      refine get6 B hP (show hk 0 = 6 by decide +kernel) 0 (by decide) mw_412 rfl dX6_put_28 ?_
      refine lv_iload_n hx hb dX6_put_31 rfl (lv_at hl 1 rfl) ?_
      refine lv_iload_n hx hb dX6_put_32 rfl (lv_at hl 2 rfl) ?_
      refine call_q (cVt (k := 1) (av := [.int a1, .int a2]) (rest := []) B hP hS (d_X5_linkAt l E ρ r S0 hS0 1 (show hk 1 = 5 by decide +kernel) a1 a2 hI) lk_RX6_132 (hrecv (ci := 5) B hP (hk_lt (c := 5) (show hk 1 = 5 by decide +kernel) (by decide)) (hcc5 _ _ (show hk 1 = 5 by decide +kernel)) rfl) rfl rfl hl.1 (Nat.le_of_ble_eq_true rfl) ⟨Nat.le_of_ble_eq_true rfl, Nat.le_of_ble_eq_true rfl⟩ ⟨Nat.le_of_ble_eq_true rfl, Nat.le_of_ble_eq_true rfl⟩ dX6_put_33) hS (fun r101 ρ102 H locs q103 hP hS => ?_)
      obtain ⟨rfl, hI, q103⟩ := q103
      rcases q103 with rfl | ⟨j104, k105, rfl, hk105, ej104, uj104⟩
      · skip
        refine W.eq (g2 := F0 m 36 ls [.null]) rfl ?_
        refine lv_astoreN (lv' := [(5, .null), (0, .ref (E.2.1 + 0)), (1, .int a1), (2, .int a2), (3, .int a3), (4, .int a4)]) hx hb dX6_put_36 hl (by decide) rfl (fun ls hl => ?_)
        refine lv_aloadN hx hb dX6_put_38 (lv_at hl 0 rfl) ?_
        refine lv_ifnonnullN hx hb dX6_put_40 ?_
        refine lv_aload_n hx hb dX6_put_43 rfl (lv_at hl 1 rfl) ?_
        refine lv_bipush (v := (-2)) hx hb dX6_put_44 (by decide) ?_
        refine call_i (cVt (k := 0) (av := [.int (-2)]) (rest := []) B hP hS (d_X6_refuse l E ρ r (-2) hI) lk_RX6_58 (hrecv (ci := 6) B hP (hk_lt (c := 6) (show hk 0 = 6 by decide +kernel) (by decide)) (hcc6 _ _ (show hk 0 = 6 by decide +kernel)) rfl) rfl rfl hl.1 (Nat.le_of_ble_eq_true rfl) ⟨Nat.le_of_ble_eq_true rfl, Nat.le_of_ble_eq_true rfl⟩ ⟨Nat.le_of_ble_eq_true rfl, Nat.le_of_ble_eq_true rfl⟩ dX6_put_46) hS (fun r106 ρ107 H locs q108 hP hS => ?_)
        have hI := q108
        exact ret_i B hr hlk hP hS dX6_put_49 (hI)
      · skip
        refine W.eq (g2 := F0 m 36 ls [.ref (E.2.1 + k105)]) rfl ?_
        refine lv_astore (lv' := [(5, .ref (E.2.1 + k105)), (0, .ref (E.2.1 + 0)), (1, .int a1), (2, .int a2), (3, .int a3), (4, .int a4)]) hx hb dX6_put_36 hl (by decide) rfl (fun ls hl => ?_)
        refine lv_aload hx hb dX6_put_38 (lv_at hl 0 rfl) ?_
        refine lv_ifnonnull (tgt := 50) hx hb dX6_put_40 (by decide) ?_
        refine lv_iload_n hx hb dX6_put_50 rfl (lv_at hl 4 rfl) ?_
        obtain ⟨j110, lj110, uj110, ej110⟩ := iR_nat (a := 0) (b := 1) q95
        refine lv_topi (fun z111 ez111 => ?_)
        obtain rfl : z111 = nI j110 := ez111.trans ej110
        refine lv_if_ne (tgt := 62) hx hb dX6_put_51 (by decide) (fun c112 => ?_) (fun c112 => ?_)
        · skip
          have n113 := mt (nI_eq (a := j110) (b := 0) (by omega) (by omega)).mpr (show ¬ (nI j110 = nI 0) from c112)
          refine lv_aload hx hb dX6_put_62 (lv_at hl 0 rfl) ?_
          refine get1 B hP hk105 2 (by decide) mw_201 rfl dX6_put_64 ?_
          exact b67_0 ls ρ _ _ (k105 + 5) (lv_sub hl [1, 5] rfl) hP hS hI (lay1 hk105).2.2.1 (iR_w (show iR a1 0 1 from by rw [ej104]; exact nI_iR (by omega) (by omega) (by omega)) (by decide) (by decide)) (iR_w q95 (by decide) (by decide)) (iR_w q99 (by decide) (by decide))
        · skip
          have n114 := (nI_eq (a := j110) (b := 0) (by omega) (by omega)).mp (show (nI j110 = nI 0) from c112)
          refine lv_aload hx hb dX6_put_54 (lv_at hl 0 rfl) ?_
          refine get1 B hP hk105 1 (by decide) mw_198 rfl dX6_put_56 ?_
          refine lv_goto (tgt := 67) hx hb dX6_put_59 (by decide) ?_
          exact b67_0 ls ρ _ _ (k105 + 2) (lv_sub hl [1, 5] rfl) hP hS hI (lay1 hk105).2.1 (iR_w (show iR a1 0 1 from by rw [ej104]; exact nI_iR (by omega) (by omega) (by omega)) (by decide) (by decide)) (iR_w q95 (by decide) (by decide)) (iR_w q99 (by decide) (by decide))
    · skip
      refine lv_if_ne (tgt := 27) hx hb dX6_put_18 (by decide) (fun c115 => absurd rfl c115) (fun _ => ?_)
      exact b21_0 ls ρ _ _  (lv_sub hl [0] rfl) hP hS hI 
  · skip
    refine lv_if_eq (tgt := 21) hx hb dX6_put_6 (by decide) (fun _ => ?_) (fun c116 => absurd rfl c116)
    exact b21_0 ls ρ _ _  (lv_sub hl [0] rfl) hP hS hI 
