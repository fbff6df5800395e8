theorem dX5_chooseIn_0 : decode cX5_chooseIn 0 = .ok (.aload_n 0, 1) := by decide +kernel
theorem dX5_chooseIn_1 : decode cX5_chooseIn 1 = .ok (.getfield 23, 3) := by decide +kernel
theorem dX5_chooseIn_4 : decode cX5_chooseIn 4 = .ok (.iload_n 1, 1) := by decide +kernel
theorem dX5_chooseIn_5 : decode cX5_chooseIn 5 = .ok (.aaload, 1) := by decide +kernel
theorem dX5_chooseIn_6 : decode cX5_chooseIn 6 = .ok (.astore_n 2, 1) := by decide +kernel
theorem dX5_chooseIn_7 : decode cX5_chooseIn 7 = .ok (.aload_n 2, 1) := by decide +kernel
theorem dX5_chooseIn_8 : decode cX5_chooseIn 8 = .ok (.iconst (-1), 1) := by decide +kernel
theorem dX5_chooseIn_9 : decode cX5_chooseIn 9 = .ok (.putfield 203, 3) := by decide +kernel
theorem dX5_chooseIn_12 : decode cX5_chooseIn 12 = .ok (.aload_n 2, 1) := by decide +kernel
theorem dX5_chooseIn_13 : decode cX5_chooseIn 13 = .ok (.iconst 0, 1) := by decide +kernel
theorem dX5_chooseIn_14 : decode cX5_chooseIn 14 = .ok (.putfield 206, 3) := by decide +kernel
theorem dX5_chooseIn_17 : decode cX5_chooseIn 17 = .ok (.aload_n 2, 1) := by decide +kernel
theorem dX5_chooseIn_18 : decode cX5_chooseIn 18 = .ok (.getfield 57, 3) := by decide +kernel
theorem dX5_chooseIn_21 : decode cX5_chooseIn 21 = .ok (.iconst (-1), 1) := by decide +kernel
theorem dX5_chooseIn_22 : decode cX5_chooseIn 22 = .ok (.if_icmp .eq 19, 3) := by decide +kernel
theorem dX5_chooseIn_25 : decode cX5_chooseIn 25 = .ok (.aload_n 0, 1) := by decide +kernel
theorem dX5_chooseIn_26 : decode cX5_chooseIn 26 = .ok (.aload_n 2, 1) := by decide +kernel
theorem dX5_chooseIn_27 : decode cX5_chooseIn 27 = .ok (.getfield 57, 3) := by decide +kernel
theorem dX5_chooseIn_30 : decode cX5_chooseIn 30 = .ok (.iload_n 1, 1) := by decide +kernel
theorem dX5_chooseIn_31 : decode cX5_chooseIn 31 = .ok (.aload_n 0, 1) := by decide +kernel
theorem dX5_chooseIn_32 : decode cX5_chooseIn 32 = .ok (.getfield 31, 3) := by decide +kernel
theorem dX5_chooseIn_35 : decode cX5_chooseIn 35 = .ok (.invokevirtual 77, 3) := by decide +kernel
theorem dX5_chooseIn_38 : decode cX5_chooseIn 38 = .ok (.ifCond .ne 4, 3) := by decide +kernel
theorem dX5_chooseIn_41 : decode cX5_chooseIn 41 = .ok (.return_, 1) := by decide +kernel
theorem dX5_chooseIn_42 : decode cX5_chooseIn 42 = .ok (.aload_n 2, 1) := by decide +kernel
theorem dX5_chooseIn_43 : decode cX5_chooseIn 43 = .ok (.aload_n 2, 1) := by decide +kernel
theorem dX5_chooseIn_44 : decode cX5_chooseIn 44 = .ok (.invokevirtual 209, 3) := by decide +kernel
theorem dX5_chooseIn_47 : decode cX5_chooseIn 47 = .ok (.putfield 203, 3) := by decide +kernel
theorem dX5_chooseIn_50 : decode cX5_chooseIn 50 = .ok (.aload_n 2, 1) := by decide +kernel
theorem dX5_chooseIn_51 : decode cX5_chooseIn 51 = .ok (.getfield 203, 3) := by decide +kernel
theorem dX5_chooseIn_54 : decode cX5_chooseIn 54 = .ok (.iconst (-1), 1) := by decide +kernel
theorem dX5_chooseIn_55 : decode cX5_chooseIn 55 = .ok (.if_icmp .ne 11, 3) := by decide +kernel
theorem dX5_chooseIn_58 : decode cX5_chooseIn 58 = .ok (.aload_n 2, 1) := by decide +kernel
theorem dX5_chooseIn_59 : decode cX5_chooseIn 59 = .ok (.aload_n 2, 1) := by decide +kernel
theorem dX5_chooseIn_60 : decode cX5_chooseIn 60 = .ok (.invokevirtual 213, 3) := by decide +kernel
theorem dX5_chooseIn_63 : decode cX5_chooseIn 63 = .ok (.putfield 203, 3) := by decide +kernel
theorem dX5_chooseIn_66 : decode cX5_chooseIn 66 = .ok (.aload_n 2, 1) := by decide +kernel
theorem dX5_chooseIn_67 : decode cX5_chooseIn 67 = .ok (.getfield 203, 3) := by decide +kernel
theorem dX5_chooseIn_70 : decode cX5_chooseIn 70 = .ok (.iconst (-1), 1) := by decide +kernel
theorem dX5_chooseIn_71 : decode cX5_chooseIn 71 = .ok (.if_icmp .ne 16, 3) := by decide +kernel
theorem dX5_chooseIn_74 : decode cX5_chooseIn 74 = .ok (.aload_n 2, 1) := by decide +kernel
theorem dX5_chooseIn_75 : decode cX5_chooseIn 75 = .ok (.getfield 216, 3) := by decide +kernel
theorem dX5_chooseIn_78 : decode cX5_chooseIn 78 = .ok (.ifCond .le 9, 3) := by decide +kernel
theorem dX5_chooseIn_81 : decode cX5_chooseIn 81 = .ok (.aload_n 2, 1) := by decide +kernel
theorem dX5_chooseIn_82 : decode cX5_chooseIn 82 = .ok (.iconst 1, 1) := by decide +kernel
theorem dX5_chooseIn_83 : decode cX5_chooseIn 83 = .ok (.putfield 206, 3) := by decide +kernel
theorem dX5_chooseIn_86 : decode cX5_chooseIn 86 = .ok (.return_, 1) := by decide +kernel
theorem dX5_chooseIn_87 : decode cX5_chooseIn 87 = .ok (.aload_n 2, 1) := by decide +kernel
theorem dX5_chooseIn_88 : decode cX5_chooseIn 88 = .ok (.getfield 203, 3) := by decide +kernel
theorem dX5_chooseIn_91 : decode cX5_chooseIn 91 = .ok (.iconst (-1), 1) := by decide +kernel
theorem dX5_chooseIn_92 : decode cX5_chooseIn 92 = .ok (.if_icmp .ne 11, 3) := by decide +kernel
theorem dX5_chooseIn_95 : decode cX5_chooseIn 95 = .ok (.aload_n 2, 1) := by decide +kernel
theorem dX5_chooseIn_96 : decode cX5_chooseIn 96 = .ok (.aload_n 2, 1) := by decide +kernel
theorem dX5_chooseIn_97 : decode cX5_chooseIn 97 = .ok (.invokevirtual 219, 3) := by decide +kernel
theorem dX5_chooseIn_100 : decode cX5_chooseIn 100 = .ok (.putfield 203, 3) := by decide +kernel
theorem dX5_chooseIn_103 : decode cX5_chooseIn 103 = .ok (.aload_n 2, 1) := by decide +kernel
theorem dX5_chooseIn_104 : decode cX5_chooseIn 104 = .ok (.aload_n 2, 1) := by decide +kernel
theorem dX5_chooseIn_105 : decode cX5_chooseIn 105 = .ok (.getfield 203, 3) := by decide +kernel
theorem dX5_chooseIn_108 : decode cX5_chooseIn 108 = .ok (.invokevirtual 64, 3) := by decide +kernel
theorem dX5_chooseIn_111 : decode cX5_chooseIn 111 = .ok (.astore_n 3, 1) := by decide +kernel
theorem dX5_chooseIn_112 : decode cX5_chooseIn 112 = .ok (.aload_n 3, 1) := by decide +kernel
theorem dX5_chooseIn_113 : decode cX5_chooseIn 113 = .ok (.ifnull 13, 3) := by decide +kernel
theorem dX5_chooseIn_116 : decode cX5_chooseIn 116 = .ok (.aload_n 3, 1) := by decide +kernel
theorem dX5_chooseIn_117 : decode cX5_chooseIn 117 = .ok (.dup, 1) := by decide +kernel
theorem dX5_chooseIn_118 : decode cX5_chooseIn 118 = .ok (.getfield 222, 3) := by decide +kernel
theorem dX5_chooseIn_121 : decode cX5_chooseIn 121 = .ok (.iconst 1, 1) := by decide +kernel
theorem dX5_chooseIn_122 : decode cX5_chooseIn 122 = .ok (.iadd, 1) := by decide +kernel
theorem dX5_chooseIn_123 : decode cX5_chooseIn 123 = .ok (.putfield 222, 3) := by decide +kernel
theorem dX5_chooseIn_126 : decode cX5_chooseIn 126 = .ok (.return_, 1) := by decide +kernel
theorem dX5_tunePacket_0 : decode cX5_tunePacket 0 = .ok (.aload_n 0, 1) := by decide +kernel
theorem dX5_tunePacket_1 : decode cX5_tunePacket 1 = .ok (.getfield 23, 3) := by decide +kernel
theorem dX5_tunePacket_4 : decode cX5_tunePacket 4 = .ok (.iload_n 1, 1) := by decide +kernel
theorem dX5_tunePacket_5 : decode cX5_tunePacket 5 = .ok (.aaload, 1) := by decide +kernel
theorem dX5_tunePacket_6 : decode cX5_tunePacket 6 = .ok (.astore_n 2, 1) := by decide +kernel
theorem dX5_tunePacket_7 : decode cX5_tunePacket 7 = .ok (.aload_n 2, 1) := by decide +kernel
theorem dX5_tunePacket_8 : decode cX5_tunePacket 8 = .ok (.aload_n 2, 1) := by decide +kernel
theorem dX5_tunePacket_9 : decode cX5_tunePacket 9 = .ok (.getfield 203, 3) := by decide +kernel
theorem dX5_tunePacket_12 : decode cX5_tunePacket 12 = .ok (.invokevirtual 64, 3) := by decide +kernel
theorem dX5_tunePacket_15 : decode cX5_tunePacket 15 = .ok (.astore_n 3, 1) := by decide +kernel
theorem dX5_tunePacket_16 : decode cX5_tunePacket 16 = .ok (.aload_n 2, 1) := by decide +kernel
theorem dX5_tunePacket_17 : decode cX5_tunePacket 17 = .ok (.iconst 0, 1) := by decide +kernel
theorem dX5_tunePacket_18 : decode cX5_tunePacket 18 = .ok (.putfield 232, 3) := by decide +kernel
theorem dX5_tunePacket_21 : decode cX5_tunePacket 21 = .ok (.aload_n 2, 1) := by decide +kernel
theorem dX5_tunePacket_22 : decode cX5_tunePacket 22 = .ok (.iconst (-1), 1) := by decide +kernel
theorem dX5_tunePacket_23 : decode cX5_tunePacket 23 = .ok (.putfield 226, 3) := by decide +kernel
theorem dX5_tunePacket_26 : decode cX5_tunePacket 26 = .ok (.aload_n 2, 1) := by decide +kernel
theorem dX5_tunePacket_27 : decode cX5_tunePacket 27 = .ok (.getfield 206, 3) := by decide +kernel
theorem dX5_tunePacket_30 : decode cX5_tunePacket 30 = .ok (.ifCond .ne 7, 3) := by decide +kernel
theorem dX5_tunePacket_33 : decode cX5_tunePacket 33 = .ok (.aload_n 3, 1) := by decide +kernel
theorem dX5_tunePacket_34 : decode cX5_tunePacket 34 = .ok (.ifnull 84, 3) := by decide +kernel
theorem dX5_tunePacket_37 : decode cX5_tunePacket 37 = .ok (.aload_n 3, 1) := by decide +kernel
theorem dX5_tunePacket_38 : decode cX5_tunePacket 38 = .ok (.ifnull 34, 3) := by decide +kernel
theorem dX5_tunePacket_41 : decode cX5_tunePacket 41 = .ok (.aload_n 3, 1) := by decide +kernel
theorem dX5_tunePacket_42 : decode cX5_tunePacket 42 = .ok (.getfield 235, 3) := by decide +kernel
theorem dX5_tunePacket_45 : decode cX5_tunePacket 45 = .ok (.ifCond .ne 27, 3) := by decide +kernel
theorem dX5_tunePacket_48 : decode cX5_tunePacket 48 = .ok (.aload_n 2, 1) := by decide +kernel
theorem dX5_tunePacket_49 : decode cX5_tunePacket 49 = .ok (.getfield 104, 3) := by decide +kernel
theorem dX5_tunePacket_52 : decode cX5_tunePacket 52 = .ok (.invokevirtual 238, 3) := by decide +kernel
theorem dX5_tunePacket_55 : decode cX5_tunePacket 55 = .ok (.ifCond .ne 17, 3) := by decide +kernel
theorem dX5_tunePacket_58 : decode cX5_tunePacket 58 = .ok (.aload_n 0, 1) := by decide +kernel
theorem dX5_tunePacket_59 : decode cX5_tunePacket 59 = .ok (.getfield 31, 3) := by decide +kernel
theorem dX5_tunePacket_62 : decode cX5_tunePacket 62 = .ok (.iconst 4, 1) := by decide +kernel
theorem dX5_tunePacket_63 : decode cX5_tunePacket 63 = .ok (.irem, 1) := by decide +kernel
theorem dX5_tunePacket_64 : decode cX5_tunePacket 64 = .ok (.iconst 2, 1) := by decide +kernel
theorem dX5_tunePacket_65 : decode cX5_tunePacket 65 = .ok (.if_icmp .ne 7, 3) := by decide +kernel
theorem dX5_tunePacket_68 : decode cX5_tunePacket 68 = .ok (.iconst 1, 1) := by decide +kernel
theorem dX5_tunePacket_69 : decode cX5_tunePacket 69 = .ok (.goto 4, 3) := by decide +kernel
theorem dX5_tunePacket_72 : decode cX5_tunePacket 72 = .ok (.iconst 0, 1) := by decide +kernel
theorem dX5_tunePacket_73 : decode cX5_tunePacket 73 = .ok (.istore 4, 2) := by decide +kernel
theorem dX5_tunePacket_75 : decode cX5_tunePacket 75 = .ok (.aload_n 2, 1) := by decide +kernel
theorem dX5_tunePacket_76 : decode cX5_tunePacket 76 = .ok (.aload_n 0, 1) := by decide +kernel
theorem dX5_tunePacket_77 : decode cX5_tunePacket 77 = .ok (.iload_n 1, 1) := by decide +kernel
theorem dX5_tunePacket_78 : decode cX5_tunePacket 78 = .ok (.aload_n 0, 1) := by decide +kernel
theorem dX5_tunePacket_79 : decode cX5_tunePacket 79 = .ok (.getfield 31, 3) := by decide +kernel
theorem dX5_tunePacket_82 : decode cX5_tunePacket 82 = .ok (.invokevirtual 98, 3) := by decide +kernel
theorem dX5_tunePacket_85 : decode cX5_tunePacket 85 = .ok (.putfield 242, 3) := by decide +kernel
theorem dX5_tunePacket_88 : decode cX5_tunePacket 88 = .ok (.aload_n 2, 1) := by decide +kernel
theorem dX5_tunePacket_89 : decode cX5_tunePacket 89 = .ok (.aload_n 2, 1) := by decide +kernel
theorem dX5_tunePacket_90 : decode cX5_tunePacket 90 = .ok (.getfield 242, 3) := by decide +kernel
theorem dX5_tunePacket_93 : decode cX5_tunePacket 93 = .ok (.iload 4, 2) := by decide +kernel
theorem dX5_tunePacket_95 : decode cX5_tunePacket 95 = .ok (.ifCond .eq 10, 3) := by decide +kernel
theorem dX5_tunePacket_98 : decode cX5_tunePacket 98 = .ok (.aload_n 2, 1) := by decide +kernel
theorem dX5_tunePacket_99 : decode cX5_tunePacket 99 = .ok (.getfield 183, 3) := by decide +kernel
theorem dX5_tunePacket_102 : decode cX5_tunePacket 102 = .ok (.goto 10, 3) := by decide +kernel
theorem dX5_tunePacket_105 : decode cX5_tunePacket 105 = .ok (.aload_n 2, 1) := by decide +kernel
theorem dX5_tunePacket_106 : decode cX5_tunePacket 106 = .ok (.getfield 104, 3) := by decide +kernel
theorem dX5_tunePacket_109 : decode cX5_tunePacket 109 = .ok (.getfield 108, 3) := by decide +kernel
theorem dX5_tunePacket_112 : decode cX5_tunePacket 112 = .ok (.invokestatic 101, 3) := by decide +kernel
theorem dX5_tunePacket_115 : decode cX5_tunePacket 115 = .ok (.putfield 226, 3) := by decide +kernel
theorem dX5_tunePacket_118 : decode cX5_tunePacket 118 = .ok (.aload_n 2, 1) := by decide +kernel
theorem dX5_tunePacket_119 : decode cX5_tunePacket 119 = .ok (.aload_n 2, 1) := by decide +kernel
theorem dX5_tunePacket_120 : decode cX5_tunePacket 120 = .ok (.getfield 226, 3) := by decide +kernel
theorem dX5_tunePacket_123 : decode cX5_tunePacket 123 = .ok (.putfield 245, 3) := by decide +kernel
theorem dX5_tunePacket_126 : decode cX5_tunePacket 126 = .ok (.return_, 1) := by decide +kernel
theorem dX5_sendPacket_0 : decode cX5_sendPacket 0 = .ok (.aload_n 0, 1) := by decide +kernel
theorem dX5_sendPacket_1 : decode cX5_sendPacket 1 = .ok (.getfield 23, 3) := by decide +kernel
theorem dX5_sendPacket_4 : decode cX5_sendPacket 4 = .ok (.iload_n 1, 1) := by decide +kernel
theorem dX5_sendPacket_5 : decode cX5_sendPacket 5 = .ok (.aaload, 1) := by decide +kernel
theorem dX5_sendPacket_6 : decode cX5_sendPacket 6 = .ok (.astore_n 2, 1) := by decide +kernel
theorem dX5_sendPacket_7 : decode cX5_sendPacket 7 = .ok (.aload_n 2, 1) := by decide +kernel
theorem dX5_sendPacket_8 : decode cX5_sendPacket 8 = .ok (.getfield 226, 3) := by decide +kernel
theorem dX5_sendPacket_11 : decode cX5_sendPacket 11 = .ok (.iconst (-1), 1) := by decide +kernel
theorem dX5_sendPacket_12 : decode cX5_sendPacket 12 = .ok (.if_icmp .ne 4, 3) := by decide +kernel
theorem dX5_sendPacket_15 : decode cX5_sendPacket 15 = .ok (.return_, 1) := by decide +kernel
theorem dX5_sendPacket_16 : decode cX5_sendPacket 16 = .ok (.aload_n 0, 1) := by decide +kernel
theorem dX5_sendPacket_17 : decode cX5_sendPacket 17 = .ok (.getfield 18, 3) := by decide +kernel
theorem dX5_sendPacket_20 : decode cX5_sendPacket 20 = .ok (.iconst 0, 1) := by decide +kernel
theorem dX5_sendPacket_21 : decode cX5_sendPacket 21 = .ok (.dup2, 1) := by decide +kernel
theorem dX5_sendPacket_22 : decode cX5_sendPacket 22 = .ok (.iaload, 1) := by decide +kernel
theorem dX5_sendPacket_23 : decode cX5_sendPacket 23 = .ok (.iconst 1, 1) := by decide +kernel
theorem dX5_sendPacket_24 : decode cX5_sendPacket 24 = .ok (.iadd, 1) := by decide +kernel
theorem dX5_sendPacket_25 : decode cX5_sendPacket 25 = .ok (.iastore, 1) := by decide +kernel
theorem dX5_sendPacket_26 : decode cX5_sendPacket 26 = .ok (.aload_n 0, 1) := by decide +kernel
theorem dX5_sendPacket_27 : decode cX5_sendPacket 27 = .ok (.iload_n 1, 1) := by decide +kernel
theorem dX5_sendPacket_28 : decode cX5_sendPacket 28 = .ok (.invokevirtual 248, 3) := by decide +kernel
theorem dX5_sendPacket_31 : decode cX5_sendPacket 31 = .ok (.istore_n 3, 1) := by decide +kernel
theorem dX5_sendPacket_32 : decode cX5_sendPacket 32 = .ok (.aload_n 2, 1) := by decide +kernel
theorem dX5_sendPacket_33 : decode cX5_sendPacket 33 = .ok (.aload_n 2, 1) := by decide +kernel
theorem dX5_sendPacket_34 : decode cX5_sendPacket 34 = .ok (.getfield 203, 3) := by decide +kernel
theorem dX5_sendPacket_37 : decode cX5_sendPacket 37 = .ok (.invokevirtual 64, 3) := by decide +kernel
theorem dX5_sendPacket_40 : decode cX5_sendPacket 40 = .ok (.astore 4, 2) := by decide +kernel
theorem dX5_sendPacket_42 : decode cX5_sendPacket 42 = .ok (.aload 4, 2) := by decide +kernel
theorem dX5_sendPacket_44 : decode cX5_sendPacket 44 = .ok (.ifnonnull 17, 3) := by decide +kernel
theorem dX5_sendPacket_47 : decode cX5_sendPacket 47 = .ok (.aload_n 0, 1) := by decide +kernel
theorem dX5_sendPacket_48 : decode cX5_sendPacket 48 = .ok (.getfield 18, 3) := by decide +kernel
theorem dX5_sendPacket_51 : decode cX5_sendPacket 51 = .ok (.bipush 7, 2) := by decide +kernel
theorem dX5_sendPacket_53 : decode cX5_sendPacket 53 = .ok (.dup2, 1) := by decide +kernel
theorem dX5_sendPacket_54 : decode cX5_sendPacket 54 = .ok (.iaload, 1) := by decide +kernel
theorem dX5_sendPacket_55 : decode cX5_sendPacket 55 = .ok (.iconst 1, 1) := by decide +kernel
theorem dX5_sendPacket_56 : decode cX5_sendPacket 56 = .ok (.iadd, 1) := by decide +kernel
theorem dX5_sendPacket_57 : decode cX5_sendPacket 57 = .ok (.iastore, 1) := by decide +kernel
theorem dX5_sendPacket_58 : decode cX5_sendPacket 58 = .ok (.goto 35, 3) := by decide +kernel
theorem dX5_sendPacket_61 : decode cX5_sendPacket 61 = .ok (.aload_n 2, 1) := by decide +kernel
theorem dX5_sendPacket_62 : decode cX5_sendPacket 62 = .ok (.invokevirtual 251, 3) := by decide +kernel
theorem dX5_sendPacket_65 : decode cX5_sendPacket 65 = .ok (.iload_n 3, 1) := by decide +kernel
theorem dX5_sendPacket_66 : decode cX5_sendPacket 66 = .ok (.ifCond .ne 27, 3) := by decide +kernel
theorem dX5_sendPacket_69 : decode cX5_sendPacket 69 = .ok (.aload_n 2, 1) := by decide +kernel
theorem dX5_sendPacket_70 : decode cX5_sendPacket 70 = .ok (.getfield 242, 3) := by decide +kernel
theorem dX5_sendPacket_73 : decode cX5_sendPacket 73 = .ok (.aload 4, 2) := by decide +kernel
theorem dX5_sendPacket_75 : decode cX5_sendPacket 75 = .ok (.getfield 117, 3) := by decide +kernel
theorem dX5_sendPacket_78 : decode cX5_sendPacket 78 = .ok (.getfield 108, 3) := by decide +kernel
theorem dX5_sendPacket_81 : decode cX5_sendPacket 81 = .ok (.invokestatic 101, 3) := by decide +kernel
theorem dX5_sendPacket_84 : decode cX5_sendPacket 84 = .ok (.aload_n 2, 1) := by decide +kernel
theorem dX5_sendPacket_85 : decode cX5_sendPacket 85 = .ok (.getfield 226, 3) := by decide +kernel
theorem dX5_sendPacket_88 : decode cX5_sendPacket 88 = .ok (.if_icmp .eq 5, 3) := by decide +kernel
theorem dX5_sendPacket_91 : decode cX5_sendPacket 91 = .ok (.iconst 3, 1) := by decide +kernel
theorem dX5_sendPacket_92 : decode cX5_sendPacket 92 = .ok (.istore_n 3, 1) := by decide +kernel
theorem dX5_sendPacket_93 : decode cX5_sendPacket 93 = .ok (.aload_n 2, 1) := by decide +kernel
theorem dX5_sendPacket_94 : decode cX5_sendPacket 94 = .ok (.iload_n 3, 1) := by decide +kernel
theorem dX5_sendPacket_95 : decode cX5_sendPacket 95 = .ok (.ifCond .ne 7, 3) := by decide +kernel
theorem dX5_sendPacket_98 : decode cX5_sendPacket 98 = .ok (.iconst 1, 1) := by decide +kernel
theorem dX5_sendPacket_99 : decode cX5_sendPacket 99 = .ok (.goto 4, 3) := by decide +kernel
theorem dX5_sendPacket_102 : decode cX5_sendPacket 102 = .ok (.iconst 0, 1) := by decide +kernel
theorem dX5_sendPacket_103 : decode cX5_sendPacket 103 = .ok (.putfield 232, 3) := by decide +kernel
theorem dX5_sendPacket_106 : decode cX5_sendPacket 106 = .ok (.iload_n 3, 1) := by decide +kernel
theorem dX5_sendPacket_107 : decode cX5_sendPacket 107 = .ok (.ifCond .eq 15, 3) := by decide +kernel
theorem dX5_sendPacket_110 : decode cX5_sendPacket 110 = .ok (.aload_n 0, 1) := by decide +kernel
theorem dX5_sendPacket_111 : decode cX5_sendPacket 111 = .ok (.getfield 18, 3) := by decide +kernel
theorem dX5_sendPacket_114 : decode cX5_sendPacket 114 = .ok (.iconst 1, 1) := by decide +kernel
theorem dX5_sendPacket_115 : decode cX5_sendPacket 115 = .ok (.iload_n 3, 1) := by decide +kernel
theorem dX5_sendPacket_116 : decode cX5_sendPacket 116 = .ok (.iadd, 1) := by decide +kernel
theorem dX5_sendPacket_117 : decode cX5_sendPacket 117 = .ok (.dup2, 1) := by decide +kernel
theorem dX5_sendPacket_118 : decode cX5_sendPacket 118 = .ok (.iaload, 1) := by decide +kernel
theorem dX5_sendPacket_119 : decode cX5_sendPacket 119 = .ok (.iconst 1, 1) := by decide +kernel
theorem dX5_sendPacket_120 : decode cX5_sendPacket 120 = .ok (.iadd, 1) := by decide +kernel
theorem dX5_sendPacket_121 : decode cX5_sendPacket 121 = .ok (.iastore, 1) := by decide +kernel
theorem dX5_sendPacket_122 : decode cX5_sendPacket 122 = .ok (.iload_n 3, 1) := by decide +kernel
theorem dX5_sendPacket_123 : decode cX5_sendPacket 123 = .ok (.ifCond .eq 17, 3) := by decide +kernel
theorem dX5_sendPacket_126 : decode cX5_sendPacket 126 = .ok (.aload 4, 2) := by decide +kernel
theorem dX5_sendPacket_128 : decode cX5_sendPacket 128 = .ok (.ifnull 12, 3) := by decide +kernel
theorem dX5_sendPacket_131 : decode cX5_sendPacket 131 = .ok (.aload 4, 2) := by decide +kernel
theorem dX5_sendPacket_133 : decode cX5_sendPacket 133 = .ok (.bipush 10, 2) := by decide +kernel
theorem dX5_sendPacket_135 : decode cX5_sendPacket 135 = .ok (.iload_n 3, 1) := by decide +kernel
theorem dX5_sendPacket_136 : decode cX5_sendPacket 136 = .ok (.iadd, 1) := by decide +kernel
theorem dX5_sendPacket_137 : decode cX5_sendPacket 137 = .ok (.putfield 254, 3) := by decide +kernel
theorem dX5_sendPacket_140 : decode cX5_sendPacket 140 = .ok (.return_, 1) := by decide +kernel
theorem dX5_passOn_0 : decode cX5_passOn 0 = .ok (.aload_n 2, 1) := by decide +kernel
theorem dX5_passOn_1 : decode cX5_passOn 1 = .ok (.getfield 137, 3) := by decide +kernel
theorem dX5_passOn_4 : decode cX5_passOn 4 = .ok (.getfield 277, 3) := by decide +kernel
theorem dX5_passOn_7 : decode cX5_passOn 7 = .ok (.iconst 0, 1) := by decide +kernel
theorem dX5_passOn_8 : decode cX5_passOn 8 = .ok (.iaload, 1) := by decide +kernel
theorem dX5_passOn_9 : decode cX5_passOn 9 = .ok (.istore_n 3, 1) := by decide +kernel
theorem dX5_passOn_10 : decode cX5_passOn 10 = .ok (.aload_n 0, 1) := by decide +kernel
theorem dX5_passOn_11 : decode cX5_passOn 11 = .ok (.getfield 23, 3) := by decide +kernel
theorem dX5_passOn_14 : decode cX5_passOn 14 = .ok (.iconst 1, 1) := by decide +kernel
theorem dX5_passOn_15 : decode cX5_passOn 15 = .ok (.iload_n 1, 1) := by decide +kernel
theorem dX5_passOn_16 : decode cX5_passOn 16 = .ok (.isub, 1) := by decide +kernel
theorem dX5_passOn_17 : decode cX5_passOn 17 = .ok (.aaload, 1) := by decide +kernel
theorem dX5_passOn_18 : decode cX5_passOn 18 = .ok (.aload_n 2, 1) := by decide +kernel
theorem dX5_passOn_19 : decode cX5_passOn 19 = .ok (.getfield 72, 3) := by decide +kernel
theorem dX5_passOn_22 : decode cX5_passOn 22 = .ok (.invokevirtual 280, 3) := by decide +kernel
theorem dX5_passOn_25 : decode cX5_passOn 25 = .ok (.astore 4, 2) := by decide +kernel
theorem dX5_passOn_27 : decode cX5_passOn 27 = .ok (.iload_n 3, 1) := by decide +kernel
theorem dX5_passOn_28 : decode cX5_passOn 28 = .ok (.sipush 128, 3) := by decide +kernel
theorem dX5_passOn_31 : decode cX5_passOn 31 = .ok (.if_icmp .lt 8, 3) := by decide +kernel
theorem dX5_passOn_34 : decode cX5_passOn 34 = .ok (.aload 4, 2) := by decide +kernel
theorem dX5_passOn_36 : decode cX5_passOn 36 = .ok (.ifnonnull 4, 3) := by decide +kernel
theorem dX5_passOn_39 : decode cX5_passOn 39 = .ok (.return_, 1) := by decide +kernel
theorem dX5_passOn_40 : decode cX5_passOn 40 = .ok (.aload 4, 2) := by decide +kernel
theorem dX5_passOn_42 : decode cX5_passOn 42 = .ok (.getfield 146, 3) := by decide +kernel
theorem dX5_passOn_45 : decode cX5_passOn 45 = .ok (.invokevirtual 283, 3) := by decide +kernel
theorem dX5_passOn_48 : decode cX5_passOn 48 = .ok (.ifCond .eq 17, 3) := by decide +kernel
theorem dX5_passOn_51 : decode cX5_passOn 51 = .ok (.aload_n 0, 1) := by decide +kernel
theorem dX5_passOn_52 : decode cX5_passOn 52 = .ok (.getfield 18, 3) := by decide +kernel
theorem dX5_passOn_55 : decode cX5_passOn 55 = .ok (.bipush 6, 2) := by decide +kernel
theorem dX5_passOn_57 : decode cX5_passOn 57 = .ok (.dup2, 1) := by decide +kernel
theorem dX5_passOn_58 : decode cX5_passOn 58 = .ok (.iaload, 1) := by decide +kernel
theorem dX5_passOn_59 : decode cX5_passOn 59 = .ok (.iconst 1, 1) := by decide +kernel
theorem dX5_passOn_60 : decode cX5_passOn 60 = .ok (.iadd, 1) := by decide +kernel
theorem dX5_passOn_61 : decode cX5_passOn 61 = .ok (.iastore, 1) := by decide +kernel
theorem dX5_passOn_62 : decode cX5_passOn 62 = .ok (.goto 26, 3) := by decide +kernel
theorem dX5_passOn_65 : decode cX5_passOn 65 = .ok (.aload 4, 2) := by decide +kernel
theorem dX5_passOn_67 : decode cX5_passOn 67 = .ok (.getfield 146, 3) := by decide +kernel
theorem dX5_passOn_70 : decode cX5_passOn 70 = .ok (.iload_n 3, 1) := by decide +kernel
theorem dX5_passOn_71 : decode cX5_passOn 71 = .ok (.aload_n 0, 1) := by decide +kernel
theorem dX5_passOn_72 : decode cX5_passOn 72 = .ok (.getfield 31, 3) := by decide +kernel
theorem dX5_passOn_75 : decode cX5_passOn 75 = .ok (.invokevirtual 286, 3) := by decide +kernel
theorem dX5_passOn_78 : decode cX5_passOn 78 = .ok (.aload_n 0, 1) := by decide +kernel
theorem dX5_passOn_79 : decode cX5_passOn 79 = .ok (.getfield 18, 3) := by decide +kernel
theorem dX5_passOn_82 : decode cX5_passOn 82 = .ok (.iconst 5, 1) := by decide +kernel
theorem dX5_passOn_83 : decode cX5_passOn 83 = .ok (.dup2, 1) := by decide +kernel
theorem dX5_passOn_84 : decode cX5_passOn 84 = .ok (.iaload, 1) := by decide +kernel
theorem dX5_passOn_85 : decode cX5_passOn 85 = .ok (.iconst 1, 1) := by decide +kernel
theorem dX5_passOn_86 : decode cX5_passOn 86 = .ok (.iadd, 1) := by decide +kernel
theorem dX5_passOn_87 : decode cX5_passOn 87 = .ok (.iastore, 1) := by decide +kernel
theorem dX5_passOn_88 : decode cX5_passOn 88 = .ok (.return_, 1) := by decide +kernel
theorem dX5_hearPacket_0 : decode cX5_hearPacket 0 = .ok (.aload_n 0, 1) := by decide +kernel
theorem dX5_hearPacket_1 : decode cX5_hearPacket 1 = .ok (.getfield 23, 3) := by decide +kernel
theorem dX5_hearPacket_4 : decode cX5_hearPacket 4 = .ok (.iload_n 1, 1) := by decide +kernel
theorem dX5_hearPacket_5 : decode cX5_hearPacket 5 = .ok (.aaload, 1) := by decide +kernel
theorem dX5_hearPacket_6 : decode cX5_hearPacket 6 = .ok (.astore_n 2, 1) := by decide +kernel
theorem dX5_hearPacket_7 : decode cX5_hearPacket 7 = .ok (.aload_n 2, 1) := by decide +kernel
theorem dX5_hearPacket_8 : decode cX5_hearPacket 8 = .ok (.getfield 206, 3) := by decide +kernel
theorem dX5_hearPacket_11 : decode cX5_hearPacket 11 = .ok (.ifCond .eq 12, 3) := by decide +kernel
theorem dX5_hearPacket_14 : decode cX5_hearPacket 14 = .ok (.aload_n 2, 1) := by decide +kernel
theorem dX5_hearPacket_15 : decode cX5_hearPacket 15 = .ok (.aload_n 0, 1) := by decide +kernel
theorem dX5_hearPacket_16 : decode cX5_hearPacket 16 = .ok (.getfield 40, 3) := by decide +kernel
theorem dX5_hearPacket_19 : decode cX5_hearPacket 19 = .ok (.invokevirtual 257, 3) := by decide +kernel
theorem dX5_hearPacket_22 : decode cX5_hearPacket 22 = .ok (.return_, 1) := by decide +kernel
theorem dX5_hearPacket_23 : decode cX5_hearPacket 23 = .ok (.aload_n 2, 1) := by decide +kernel
theorem dX5_hearPacket_24 : decode cX5_hearPacket 24 = .ok (.aload_n 2, 1) := by decide +kernel
theorem dX5_hearPacket_25 : decode cX5_hearPacket 25 = .ok (.getfield 203, 3) := by decide +kernel
theorem dX5_hearPacket_28 : decode cX5_hearPacket 28 = .ok (.invokevirtual 64, 3) := by decide +kernel
theorem dX5_hearPacket_31 : decode cX5_hearPacket 31 = .ok (.astore_n 3, 1) := by decide +kernel
theorem dX5_hearPacket_32 : decode cX5_hearPacket 32 = .ok (.aload_n 3, 1) := by decide +kernel
theorem dX5_hearPacket_33 : decode cX5_hearPacket 33 = .ok (.ifnull 10, 3) := by decide +kernel
theorem dX5_hearPacket_36 : decode cX5_hearPacket 36 = .ok (.aload_n 2, 1) := by decide +kernel
theorem dX5_hearPacket_37 : decode cX5_hearPacket 37 = .ok (.getfield 232, 3) := by decide +kernel
theorem dX5_hearPacket_40 : decode cX5_hearPacket 40 = .ok (.ifCond .ne 4, 3) := by decide +kernel
theorem dX5_hearPacket_43 : decode cX5_hearPacket 43 = .ok (.return_, 1) := by decide +kernel
theorem dX5_hearPacket_44 : decode cX5_hearPacket 44 = .ok (.aload_n 3, 1) := by decide +kernel
theorem dX5_hearPacket_45 : decode cX5_hearPacket 45 = .ok (.getfield 260, 3) := by decide +kernel
theorem dX5_hearPacket_48 : decode cX5_hearPacket 48 = .ok (.ifCond .eq 19, 3) := by decide +kernel
theorem dX5_hearPacket_51 : decode cX5_hearPacket 51 = .ok (.aload_n 3, 1) := by decide +kernel
theorem dX5_hearPacket_52 : decode cX5_hearPacket 52 = .ok (.getfield 146, 3) := by decide +kernel
theorem dX5_hearPacket_55 : decode cX5_hearPacket 55 = .ok (.aload_n 0, 1) := by decide +kernel
theorem dX5_hearPacket_56 : decode cX5_hearPacket 56 = .ok (.getfield 31, 3) := by decide +kernel
theorem dX5_hearPacket_59 : decode cX5_hearPacket 59 = .ok (.invokevirtual 263, 3) := by decide +kernel
theorem dX5_hearPacket_62 : decode cX5_hearPacket 62 = .ok (.aload_n 3, 1) := by decide +kernel
theorem dX5_hearPacket_63 : decode cX5_hearPacket 63 = .ok (.iconst 0, 1) := by decide +kernel
theorem dX5_hearPacket_64 : decode cX5_hearPacket 64 = .ok (.putfield 260, 3) := by decide +kernel
theorem dX5_hearPacket_67 : decode cX5_hearPacket 67 = .ok (.aload_n 3, 1) := by decide +kernel
theorem dX5_hearPacket_68 : decode cX5_hearPacket 68 = .ok (.getfield 137, 3) := by decide +kernel
theorem dX5_hearPacket_71 : decode cX5_hearPacket 71 = .ok (.invokevirtual 266, 3) := by decide +kernel
theorem dX5_hearPacket_74 : decode cX5_hearPacket 74 = .ok (.ifCond .eq 19, 3) := by decide +kernel
theorem dX5_hearPacket_77 : decode cX5_hearPacket 77 = .ok (.aload_n 0, 1) := by decide +kernel
theorem dX5_hearPacket_78 : decode cX5_hearPacket 78 = .ok (.dup, 1) := by decide +kernel
theorem dX5_hearPacket_79 : decode cX5_hearPacket 79 = .ok (.getfield 43, 3) := by decide +kernel
theorem dX5_hearPacket_82 : decode cX5_hearPacket 82 = .ok (.iconst 1, 1) := by decide +kernel
theorem dX5_hearPacket_83 : decode cX5_hearPacket 83 = .ok (.iadd, 1) := by decide +kernel
theorem dX5_hearPacket_84 : decode cX5_hearPacket 84 = .ok (.putfield 43, 3) := by decide +kernel
theorem dX5_hearPacket_87 : decode cX5_hearPacket 87 = .ok (.aload_n 0, 1) := by decide +kernel
theorem dX5_hearPacket_88 : decode cX5_hearPacket 88 = .ok (.iload_n 1, 1) := by decide +kernel
theorem dX5_hearPacket_89 : decode cX5_hearPacket 89 = .ok (.aload_n 3, 1) := by decide +kernel
theorem dX5_hearPacket_90 : decode cX5_hearPacket 90 = .ok (.invokevirtual 269, 3) := by decide +kernel
theorem dX5_hearPacket_93 : decode cX5_hearPacket 93 = .ok (.aload_n 3, 1) := by decide +kernel
theorem dX5_hearPacket_94 : decode cX5_hearPacket 94 = .ok (.getfield 235, 3) := by decide +kernel
theorem dX5_hearPacket_97 : decode cX5_hearPacket 97 = .ok (.ifCond .ne 11, 3) := by decide +kernel
theorem dX5_hearPacket_100 : decode cX5_hearPacket 100 = .ok (.aload_n 3, 1) := by decide +kernel
theorem dX5_hearPacket_101 : decode cX5_hearPacket 101 = .ok (.aload_n 2, 1) := by decide +kernel
theorem dX5_hearPacket_102 : decode cX5_hearPacket 102 = .ok (.getfield 104, 3) := by decide +kernel
theorem dX5_hearPacket_105 : decode cX5_hearPacket 105 = .ok (.invokevirtual 273, 3) := by decide +kernel
theorem dX5_hearPacket_108 : decode cX5_hearPacket 108 = .ok (.return_, 1) := by decide +kernel
theorem dX5_tuneAnswer_0 : decode cX5_tuneAnswer 0 = .ok (.aload_n 0, 1) := by decide +kernel
theorem dX5_tuneAnswer_1 : decode cX5_tuneAnswer 1 = .ok (.getfield 23, 3) := by decide +kernel
theorem dX5_tuneAnswer_4 : decode cX5_tuneAnswer 4 = .ok (.iload_n 1, 1) := by decide +kernel
theorem dX5_tuneAnswer_5 : decode cX5_tuneAnswer 5 = .ok (.aaload, 1) := by decide +kernel
theorem dX5_tuneAnswer_6 : decode cX5_tuneAnswer 6 = .ok (.astore_n 2, 1) := by decide +kernel
theorem dX5_tuneAnswer_7 : decode cX5_tuneAnswer 7 = .ok (.aload_n 2, 1) := by decide +kernel
theorem dX5_tuneAnswer_8 : decode cX5_tuneAnswer 8 = .ok (.aload_n 2, 1) := by decide +kernel
theorem dX5_tuneAnswer_9 : decode cX5_tuneAnswer 9 = .ok (.getfield 203, 3) := by decide +kernel
theorem dX5_tuneAnswer_12 : decode cX5_tuneAnswer 12 = .ok (.invokevirtual 64, 3) := by decide +kernel
theorem dX5_tuneAnswer_15 : decode cX5_tuneAnswer 15 = .ok (.astore_n 3, 1) := by decide +kernel
theorem dX5_tuneAnswer_16 : decode cX5_tuneAnswer 16 = .ok (.aload_n 2, 1) := by decide +kernel
theorem dX5_tuneAnswer_17 : decode cX5_tuneAnswer 17 = .ok (.iconst (-1), 1) := by decide +kernel
theorem dX5_tuneAnswer_18 : decode cX5_tuneAnswer 18 = .ok (.putfield 226, 3) := by decide +kernel
theorem dX5_tuneAnswer_21 : decode cX5_tuneAnswer 21 = .ok (.aload_n 3, 1) := by decide +kernel
theorem dX5_tuneAnswer_22 : decode cX5_tuneAnswer 22 = .ok (.ifnull 43, 3) := by decide +kernel
theorem dX5_tuneAnswer_25 : decode cX5_tuneAnswer 25 = .ok (.aload_n 2, 1) := by decide +kernel
theorem dX5_tuneAnswer_26 : decode cX5_tuneAnswer 26 = .ok (.getfield 232, 3) := by decide +kernel
theorem dX5_tuneAnswer_29 : decode cX5_tuneAnswer 29 = .ok (.ifCond .eq 36, 3) := by decide +kernel
theorem dX5_tuneAnswer_32 : decode cX5_tuneAnswer 32 = .ok (.aload_n 2, 1) := by decide +kernel
theorem dX5_tuneAnswer_33 : decode cX5_tuneAnswer 33 = .ok (.aload_n 0, 1) := by decide +kernel
theorem dX5_tuneAnswer_34 : decode cX5_tuneAnswer 34 = .ok (.iload_n 1, 1) := by decide +kernel
theorem dX5_tuneAnswer_35 : decode cX5_tuneAnswer 35 = .ok (.aload_n 0, 1) := by decide +kernel
theorem dX5_tuneAnswer_36 : decode cX5_tuneAnswer 36 = .ok (.getfield 31, 3) := by decide +kernel
theorem dX5_tuneAnswer_39 : decode cX5_tuneAnswer 39 = .ok (.iconst 1, 1) := by decide +kernel
theorem dX5_tuneAnswer_40 : decode cX5_tuneAnswer 40 = .ok (.iadd, 1) := by decide +kernel
theorem dX5_tuneAnswer_41 : decode cX5_tuneAnswer 41 = .ok (.invokevirtual 98, 3) := by decide +kernel
theorem dX5_tuneAnswer_44 : decode cX5_tuneAnswer 44 = .ok (.putfield 242, 3) := by decide +kernel
theorem dX5_tuneAnswer_47 : decode cX5_tuneAnswer 47 = .ok (.aload_n 2, 1) := by decide +kernel
theorem dX5_tuneAnswer_48 : decode cX5_tuneAnswer 48 = .ok (.aload_n 2, 1) := by decide +kernel
theorem dX5_tuneAnswer_49 : decode cX5_tuneAnswer 49 = .ok (.getfield 242, 3) := by decide +kernel
theorem dX5_tuneAnswer_52 : decode cX5_tuneAnswer 52 = .ok (.aload_n 3, 1) := by decide +kernel
theorem dX5_tuneAnswer_53 : decode cX5_tuneAnswer 53 = .ok (.getfield 117, 3) := by decide +kernel
theorem dX5_tuneAnswer_56 : decode cX5_tuneAnswer 56 = .ok (.getfield 108, 3) := by decide +kernel
theorem dX5_tuneAnswer_59 : decode cX5_tuneAnswer 59 = .ok (.invokestatic 101, 3) := by decide +kernel
theorem dX5_tuneAnswer_62 : decode cX5_tuneAnswer 62 = .ok (.putfield 226, 3) := by decide +kernel
theorem dX5_tuneAnswer_65 : decode cX5_tuneAnswer 65 = .ok (.return_, 1) := by decide +kernel
theorem dX5_hearAnswer_0 : decode cX5_hearAnswer 0 = .ok (.aload_n 1, 1) := by decide +kernel
theorem dX5_hearAnswer_1 : decode cX5_hearAnswer 1 = .ok (.invokevirtual 294, 3) := by decide +kernel
theorem dX5_hearAnswer_4 : decode cX5_hearAnswer 4 = .ok (.aload_n 2, 1) := by decide +kernel
theorem dX5_hearAnswer_5 : decode cX5_hearAnswer 5 = .ok (.iconst 0, 1) := by decide +kernel
theorem dX5_hearAnswer_6 : decode cX5_hearAnswer 6 = .ok (.putfield 254, 3) := by decide +kernel
theorem dX5_hearAnswer_9 : decode cX5_hearAnswer 9 = .ok (.aload_n 2, 1) := by decide +kernel
theorem dX5_hearAnswer_10 : decode cX5_hearAnswer 10 = .ok (.aload_n 0, 1) := by decide +kernel
theorem dX5_hearAnswer_11 : decode cX5_hearAnswer 11 = .ok (.getfield 31, 3) := by decide +kernel
theorem dX5_hearAnswer_14 : decode cX5_hearAnswer 14 = .ok (.putfield 297, 3) := by decide +kernel
theorem dX5_hearAnswer_17 : decode cX5_hearAnswer 17 = .ok (.aload_n 2, 1) := by decide +kernel
theorem dX5_hearAnswer_18 : decode cX5_hearAnswer 18 = .ok (.getfield 137, 3) := by decide +kernel
theorem dX5_hearAnswer_21 : decode cX5_hearAnswer 21 = .ok (.aload_n 0, 1) := by decide +kernel
theorem dX5_hearAnswer_22 : decode cX5_hearAnswer 22 = .ok (.getfield 31, 3) := by decide +kernel
theorem dX5_hearAnswer_25 : decode cX5_hearAnswer 25 = .ok (.invokevirtual 263, 3) := by decide +kernel
theorem dX5_hearAnswer_28 : decode cX5_hearAnswer 28 = .ok (.aload_n 2, 1) := by decide +kernel
theorem dX5_hearAnswer_29 : decode cX5_hearAnswer 29 = .ok (.getfield 146, 3) := by decide +kernel
theorem dX5_hearAnswer_32 : decode cX5_hearAnswer 32 = .ok (.invokevirtual 266, 3) := by decide +kernel
theorem dX5_hearAnswer_35 : decode cX5_hearAnswer 35 = .ok (.ifCond .eq 13, 3) := by decide +kernel
theorem dX5_hearAnswer_38 : decode cX5_hearAnswer 38 = .ok (.aload_n 0, 1) := by decide +kernel
theorem dX5_hearAnswer_39 : decode cX5_hearAnswer 39 = .ok (.dup, 1) := by decide +kernel
theorem dX5_hearAnswer_40 : decode cX5_hearAnswer 40 = .ok (.getfield 43, 3) := by decide +kernel
theorem dX5_hearAnswer_43 : decode cX5_hearAnswer 43 = .ok (.iconst 1, 1) := by decide +kernel
theorem dX5_hearAnswer_44 : decode cX5_hearAnswer 44 = .ok (.iadd, 1) := by decide +kernel
theorem dX5_hearAnswer_45 : decode cX5_hearAnswer 45 = .ok (.putfield 43, 3) := by decide +kernel
theorem dX5_hearAnswer_48 : decode cX5_hearAnswer 48 = .ok (.aload_n 2, 1) := by decide +kernel
theorem dX5_hearAnswer_49 : decode cX5_hearAnswer 49 = .ok (.aload_n 2, 1) := by decide +kernel
theorem dX5_hearAnswer_50 : decode cX5_hearAnswer 50 = .ok (.getfield 146, 3) := by decide +kernel
theorem dX5_hearAnswer_53 : decode cX5_hearAnswer 53 = .ok (.getfield 300, 3) := by decide +kernel
theorem dX5_hearAnswer_56 : decode cX5_hearAnswer 56 = .ok (.ifCond .le 7, 3) := by decide +kernel
theorem dX5_hearAnswer_59 : decode cX5_hearAnswer 59 = .ok (.iconst 1, 1) := by decide +kernel
theorem dX5_hearAnswer_60 : decode cX5_hearAnswer 60 = .ok (.goto 4, 3) := by decide +kernel
theorem dX5_hearAnswer_63 : decode cX5_hearAnswer 63 = .ok (.iconst 0, 1) := by decide +kernel
theorem dX5_hearAnswer_64 : decode cX5_hearAnswer 64 = .ok (.putfield 260, 3) := by decide +kernel
theorem dX5_hearAnswer_67 : decode cX5_hearAnswer 67 = .ok (.aload_n 2, 1) := by decide +kernel
theorem dX5_hearAnswer_68 : decode cX5_hearAnswer 68 = .ok (.getfield 128, 3) := by decide +kernel
theorem dX5_hearAnswer_71 : decode cX5_hearAnswer 71 = .ok (.invokevirtual 303, 3) := by decide +kernel
theorem dX5_hearAnswer_74 : decode cX5_hearAnswer 74 = .ok (.aload_n 2, 1) := by decide +kernel
theorem dX5_hearAnswer_75 : decode cX5_hearAnswer 75 = .ok (.iconst 1, 1) := by decide +kernel
theorem dX5_hearAnswer_76 : decode cX5_hearAnswer 76 = .ok (.putfield 235, 3) := by decide +kernel
theorem dX5_hearAnswer_79 : decode cX5_hearAnswer 79 = .ok (.return_, 1) := by decide +kernel
theorem dX5_sendAnswer_0 : decode cX5_sendAnswer 0 = .ok (.aload_n 0, 1) := by decide +kernel
theorem dX5_sendAnswer_1 : decode cX5_sendAnswer 1 = .ok (.getfield 23, 3) := by decide +kernel
theorem dX5_sendAnswer_4 : decode cX5_sendAnswer 4 = .ok (.iload_n 1, 1) := by decide +kernel
theorem dX5_sendAnswer_5 : decode cX5_sendAnswer 5 = .ok (.aaload, 1) := by decide +kernel
theorem dX5_sendAnswer_6 : decode cX5_sendAnswer 6 = .ok (.astore_n 2, 1) := by decide +kernel
theorem dX5_sendAnswer_7 : decode cX5_sendAnswer 7 = .ok (.aload_n 2, 1) := by decide +kernel
theorem dX5_sendAnswer_8 : decode cX5_sendAnswer 8 = .ok (.aload_n 2, 1) := by decide +kernel
theorem dX5_sendAnswer_9 : decode cX5_sendAnswer 9 = .ok (.getfield 203, 3) := by decide +kernel
theorem dX5_sendAnswer_12 : decode cX5_sendAnswer 12 = .ok (.invokevirtual 64, 3) := by decide +kernel
theorem dX5_sendAnswer_15 : decode cX5_sendAnswer 15 = .ok (.astore_n 3, 1) := by decide +kernel
theorem dX5_sendAnswer_16 : decode cX5_sendAnswer 16 = .ok (.aload_n 3, 1) := by decide +kernel
theorem dX5_sendAnswer_17 : decode cX5_sendAnswer 17 = .ok (.ifnull 11, 3) := by decide +kernel
theorem dX5_sendAnswer_20 : decode cX5_sendAnswer 20 = .ok (.aload_n 2, 1) := by decide +kernel
theorem dX5_sendAnswer_21 : decode cX5_sendAnswer 21 = .ok (.getfield 226, 3) := by decide +kernel
theorem dX5_sendAnswer_24 : decode cX5_sendAnswer 24 = .ok (.iconst (-1), 1) := by decide +kernel
theorem dX5_sendAnswer_25 : decode cX5_sendAnswer 25 = .ok (.if_icmp .ne 4, 3) := by decide +kernel
theorem dX5_sendAnswer_28 : decode cX5_sendAnswer 28 = .ok (.return_, 1) := by decide +kernel
theorem dX5_sendAnswer_29 : decode cX5_sendAnswer 29 = .ok (.aload_n 0, 1) := by decide +kernel
theorem dX5_sendAnswer_30 : decode cX5_sendAnswer 30 = .ok (.getfield 18, 3) := by decide +kernel
theorem dX5_sendAnswer_33 : decode cX5_sendAnswer 33 = .ok (.iconst 1, 1) := by decide +kernel
theorem dX5_sendAnswer_34 : decode cX5_sendAnswer 34 = .ok (.dup2, 1) := by decide +kernel
theorem dX5_sendAnswer_35 : decode cX5_sendAnswer 35 = .ok (.iaload, 1) := by decide +kernel
theorem dX5_sendAnswer_36 : decode cX5_sendAnswer 36 = .ok (.iconst 1, 1) := by decide +kernel
theorem dX5_sendAnswer_37 : decode cX5_sendAnswer 37 = .ok (.iadd, 1) := by decide +kernel
theorem dX5_sendAnswer_38 : decode cX5_sendAnswer 38 = .ok (.iastore, 1) := by decide +kernel
theorem dX5_sendAnswer_39 : decode cX5_sendAnswer 39 = .ok (.aload_n 0, 1) := by decide +kernel
theorem dX5_sendAnswer_40 : decode cX5_sendAnswer 40 = .ok (.iload_n 1, 1) := by decide +kernel
theorem dX5_sendAnswer_41 : decode cX5_sendAnswer 41 = .ok (.invokevirtual 248, 3) := by decide +kernel
theorem dX5_sendAnswer_44 : decode cX5_sendAnswer 44 = .ok (.istore 4, 2) := by decide +kernel
theorem dX5_sendAnswer_46 : decode cX5_sendAnswer 46 = .ok (.iload 4, 2) := by decide +kernel
theorem dX5_sendAnswer_48 : decode cX5_sendAnswer 48 = .ok (.ifCond .ne 27, 3) := by decide +kernel
theorem dX5_sendAnswer_51 : decode cX5_sendAnswer 51 = .ok (.aload_n 2, 1) := by decide +kernel
theorem dX5_sendAnswer_52 : decode cX5_sendAnswer 52 = .ok (.getfield 242, 3) := by decide +kernel
theorem dX5_sendAnswer_55 : decode cX5_sendAnswer 55 = .ok (.aload_n 2, 1) := by decide +kernel
theorem dX5_sendAnswer_56 : decode cX5_sendAnswer 56 = .ok (.getfield 104, 3) := by decide +kernel
theorem dX5_sendAnswer_59 : decode cX5_sendAnswer 59 = .ok (.getfield 108, 3) := by decide +kernel
theorem dX5_sendAnswer_62 : decode cX5_sendAnswer 62 = .ok (.invokestatic 101, 3) := by decide +kernel
theorem dX5_sendAnswer_65 : decode cX5_sendAnswer 65 = .ok (.aload_n 2, 1) := by decide +kernel
theorem dX5_sendAnswer_66 : decode cX5_sendAnswer 66 = .ok (.getfield 226, 3) := by decide +kernel
theorem dX5_sendAnswer_69 : decode cX5_sendAnswer 69 = .ok (.if_icmp .eq 6, 3) := by decide +kernel
theorem dX5_sendAnswer_72 : decode cX5_sendAnswer 72 = .ok (.iconst 3, 1) := by decide +kernel
theorem dX5_sendAnswer_73 : decode cX5_sendAnswer 73 = .ok (.istore 4, 2) := by decide +kernel
theorem dX5_sendAnswer_75 : decode cX5_sendAnswer 75 = .ok (.iload 4, 2) := by decide +kernel
theorem dX5_sendAnswer_77 : decode cX5_sendAnswer 77 = .ok (.ifCond .ne 12, 3) := by decide +kernel
theorem dX5_sendAnswer_80 : decode cX5_sendAnswer 80 = .ok (.aload_n 0, 1) := by decide +kernel
theorem dX5_sendAnswer_81 : decode cX5_sendAnswer 81 = .ok (.aload_n 2, 1) := by decide +kernel
theorem dX5_sendAnswer_82 : decode cX5_sendAnswer 82 = .ok (.aload_n 3, 1) := by decide +kernel
theorem dX5_sendAnswer_83 : decode cX5_sendAnswer 83 = .ok (.invokevirtual 290, 3) := by decide +kernel
theorem dX5_sendAnswer_86 : decode cX5_sendAnswer 86 = .ok (.goto 25, 3) := by decide +kernel
theorem dX5_sendAnswer_89 : decode cX5_sendAnswer 89 = .ok (.aload_n 0, 1) := by decide +kernel
theorem dX5_sendAnswer_90 : decode cX5_sendAnswer 90 = .ok (.getfield 18, 3) := by decide +kernel
theorem dX5_sendAnswer_93 : decode cX5_sendAnswer 93 = .ok (.iconst 1, 1) := by decide +kernel
theorem dX5_sendAnswer_94 : decode cX5_sendAnswer 94 = .ok (.iload 4, 2) := by decide +kernel
theorem dX5_sendAnswer_96 : decode cX5_sendAnswer 96 = .ok (.iadd, 1) := by decide +kernel
theorem dX5_sendAnswer_97 : decode cX5_sendAnswer 97 = .ok (.dup2, 1) := by decide +kernel
theorem dX5_sendAnswer_98 : decode cX5_sendAnswer 98 = .ok (.iaload, 1) := by decide +kernel
theorem dX5_sendAnswer_99 : decode cX5_sendAnswer 99 = .ok (.iconst 1, 1) := by decide +kernel
theorem dX5_sendAnswer_100 : decode cX5_sendAnswer 100 = .ok (.iadd, 1) := by decide +kernel
theorem dX5_sendAnswer_101 : decode cX5_sendAnswer 101 = .ok (.iastore, 1) := by decide +kernel
theorem dX5_sendAnswer_102 : decode cX5_sendAnswer 102 = .ok (.aload_n 3, 1) := by decide +kernel
theorem dX5_sendAnswer_103 : decode cX5_sendAnswer 103 = .ok (.bipush 20, 2) := by decide +kernel
theorem dX5_sendAnswer_105 : decode cX5_sendAnswer 105 = .ok (.iload 4, 2) := by decide +kernel
theorem dX5_sendAnswer_107 : decode cX5_sendAnswer 107 = .ok (.iadd, 1) := by decide +kernel
theorem dX5_sendAnswer_108 : decode cX5_sendAnswer 108 = .ok (.putfield 254, 3) := by decide +kernel
theorem dX5_sendAnswer_111 : decode cX5_sendAnswer 111 = .ok (.return_, 1) := by decide +kernel
theorem dX5_goOneTurn_0 : decode cX5_goOneTurn 0 = .ok (.iconst 0, 1) := by decide +kernel
theorem dX5_goOneTurn_1 : decode cX5_goOneTurn 1 = .ok (.istore_n 1, 1) := by decide +kernel
theorem dX5_goOneTurn_2 : decode cX5_goOneTurn 2 = .ok (.iload_n 1, 1) := by decide +kernel
theorem dX5_goOneTurn_3 : decode cX5_goOneTurn 3 = .ok (.iconst 2, 1) := by decide +kernel
theorem dX5_goOneTurn_4 : decode cX5_goOneTurn 4 = .ok (.if_icmp .ge 24, 3) := by decide +kernel
theorem dX5_goOneTurn_7 : decode cX5_goOneTurn 7 = .ok (.aload_n 0, 1) := by decide +kernel
theorem dX5_goOneTurn_8 : decode cX5_goOneTurn 8 = .ok (.aload_n 0, 1) := by decide +kernel
theorem dX5_goOneTurn_9 : decode cX5_goOneTurn 9 = .ok (.getfield 23, 3) := by decide +kernel
theorem dX5_goOneTurn_12 : decode cX5_goOneTurn 12 = .ok (.iload_n 1, 1) := by decide +kernel
theorem dX5_goOneTurn_13 : decode cX5_goOneTurn 13 = .ok (.aaload, 1) := by decide +kernel
theorem dX5_goOneTurn_14 : decode cX5_goOneTurn 14 = .ok (.invokevirtual 152, 3) := by decide +kernel
theorem dX5_goOneTurn_17 : decode cX5_goOneTurn 17 = .ok (.aload_n 0, 1) := by decide +kernel
theorem dX5_goOneTurn_18 : decode cX5_goOneTurn 18 = .ok (.iload_n 1, 1) := by decide +kernel
theorem dX5_goOneTurn_19 : decode cX5_goOneTurn 19 = .ok (.invokevirtual 155, 3) := by decide +kernel
theorem dX5_goOneTurn_22 : decode cX5_goOneTurn 22 = .ok (.iinc 1 1, 3) := by decide +kernel
theorem dX5_goOneTurn_25 : decode cX5_goOneTurn 25 = .ok (.goto (-23), 3) := by decide +kernel
theorem dX5_goOneTurn_28 : decode cX5_goOneTurn 28 = .ok (.iconst 0, 1) := by decide +kernel
theorem dX5_goOneTurn_29 : decode cX5_goOneTurn 29 = .ok (.istore_n 1, 1) := by decide +kernel
theorem dX5_goOneTurn_30 : decode cX5_goOneTurn 30 = .ok (.iload_n 1, 1) := by decide +kernel
theorem dX5_goOneTurn_31 : decode cX5_goOneTurn 31 = .ok (.iconst 2, 1) := by decide +kernel
theorem dX5_goOneTurn_32 : decode cX5_goOneTurn 32 = .ok (.if_icmp .ge 19, 3) := by decide +kernel
theorem dX5_goOneTurn_35 : decode cX5_goOneTurn 35 = .ok (.aload_n 0, 1) := by decide +kernel
theorem dX5_goOneTurn_36 : decode cX5_goOneTurn 36 = .ok (.iload_n 1, 1) := by decide +kernel
theorem dX5_goOneTurn_37 : decode cX5_goOneTurn 37 = .ok (.invokevirtual 159, 3) := by decide +kernel
theorem dX5_goOneTurn_40 : decode cX5_goOneTurn 40 = .ok (.aload_n 0, 1) := by decide +kernel
theorem dX5_goOneTurn_41 : decode cX5_goOneTurn 41 = .ok (.iload_n 1, 1) := by decide +kernel
theorem dX5_goOneTurn_42 : decode cX5_goOneTurn 42 = .ok (.invokevirtual 162, 3) := by decide +kernel
theorem dX5_goOneTurn_45 : decode cX5_goOneTurn 45 = .ok (.iinc 1 1, 3) := by decide +kernel
theorem dX5_goOneTurn_48 : decode cX5_goOneTurn 48 = .ok (.goto (-18), 3) := by decide +kernel
theorem dX5_goOneTurn_51 : decode cX5_goOneTurn 51 = .ok (.iconst 0, 1) := by decide +kernel
theorem dX5_goOneTurn_52 : decode cX5_goOneTurn 52 = .ok (.istore_n 1, 1) := by decide +kernel
theorem dX5_goOneTurn_53 : decode cX5_goOneTurn 53 = .ok (.iload_n 1, 1) := by decide +kernel
theorem dX5_goOneTurn_54 : decode cX5_goOneTurn 54 = .ok (.iconst 2, 1) := by decide +kernel
theorem dX5_goOneTurn_55 : decode cX5_goOneTurn 55 = .ok (.if_icmp .ge 14, 3) := by decide +kernel
theorem dX5_goOneTurn_58 : decode cX5_goOneTurn 58 = .ok (.aload_n 0, 1) := by decide +kernel
theorem dX5_goOneTurn_59 : decode cX5_goOneTurn 59 = .ok (.iload_n 1, 1) := by decide +kernel
theorem dX5_goOneTurn_60 : decode cX5_goOneTurn 60 = .ok (.invokevirtual 165, 3) := by decide +kernel
theorem dX5_goOneTurn_63 : decode cX5_goOneTurn 63 = .ok (.iinc 1 1, 3) := by decide +kernel
theorem dX5_goOneTurn_66 : decode cX5_goOneTurn 66 = .ok (.goto (-13), 3) := by decide +kernel
theorem dX5_goOneTurn_69 : decode cX5_goOneTurn 69 = .ok (.iconst 0, 1) := by decide +kernel
theorem dX5_goOneTurn_70 : decode cX5_goOneTurn 70 = .ok (.istore_n 1, 1) := by decide +kernel
theorem dX5_goOneTurn_71 : decode cX5_goOneTurn 71 = .ok (.iload_n 1, 1) := by decide +kernel
theorem dX5_goOneTurn_72 : decode cX5_goOneTurn 72 = .ok (.iconst 2, 1) := by decide +kernel
theorem dX5_goOneTurn_73 : decode cX5_goOneTurn 73 = .ok (.if_icmp .ge 19, 3) := by decide +kernel
theorem dX5_goOneTurn_76 : decode cX5_goOneTurn 76 = .ok (.aload_n 0, 1) := by decide +kernel
theorem dX5_goOneTurn_77 : decode cX5_goOneTurn 77 = .ok (.iload_n 1, 1) := by decide +kernel
theorem dX5_goOneTurn_78 : decode cX5_goOneTurn 78 = .ok (.invokevirtual 168, 3) := by decide +kernel
theorem dX5_goOneTurn_81 : decode cX5_goOneTurn 81 = .ok (.aload_n 0, 1) := by decide +kernel
theorem dX5_goOneTurn_82 : decode cX5_goOneTurn 82 = .ok (.iload_n 1, 1) := by decide +kernel
theorem dX5_goOneTurn_83 : decode cX5_goOneTurn 83 = .ok (.invokevirtual 171, 3) := by decide +kernel
theorem dX5_goOneTurn_86 : decode cX5_goOneTurn 86 = .ok (.iinc 1 1, 3) := by decide +kernel
theorem dX5_goOneTurn_89 : decode cX5_goOneTurn 89 = .ok (.goto (-18), 3) := by decide +kernel
theorem dX5_goOneTurn_92 : decode cX5_goOneTurn 92 = .ok (.iconst 0, 1) := by decide +kernel
theorem dX5_goOneTurn_93 : decode cX5_goOneTurn 93 = .ok (.istore_n 1, 1) := by decide +kernel
theorem dX5_goOneTurn_94 : decode cX5_goOneTurn 94 = .ok (.iload_n 1, 1) := by decide +kernel
theorem dX5_goOneTurn_95 : decode cX5_goOneTurn 95 = .ok (.iconst 2, 1) := by decide +kernel
theorem dX5_goOneTurn_96 : decode cX5_goOneTurn 96 = .ok (.if_icmp .ge 14, 3) := by decide +kernel
theorem dX5_goOneTurn_99 : decode cX5_goOneTurn 99 = .ok (.aload_n 0, 1) := by decide +kernel
theorem dX5_goOneTurn_100 : decode cX5_goOneTurn 100 = .ok (.iload_n 1, 1) := by decide +kernel
theorem dX5_goOneTurn_101 : decode cX5_goOneTurn 101 = .ok (.invokevirtual 174, 3) := by decide +kernel
theorem dX5_goOneTurn_104 : decode cX5_goOneTurn 104 = .ok (.iinc 1 1, 3) := by decide +kernel
theorem dX5_goOneTurn_107 : decode cX5_goOneTurn 107 = .ok (.goto (-13), 3) := by decide +kernel
theorem dX5_goOneTurn_110 : decode cX5_goOneTurn 110 = .ok (.iconst 0, 1) := by decide +kernel
theorem dX5_goOneTurn_111 : decode cX5_goOneTurn 111 = .ok (.istore_n 1, 1) := by decide +kernel
theorem dX5_goOneTurn_112 : decode cX5_goOneTurn 112 = .ok (.iload_n 1, 1) := by decide +kernel
theorem dX5_goOneTurn_113 : decode cX5_goOneTurn 113 = .ok (.iconst 2, 1) := by decide +kernel
theorem dX5_goOneTurn_114 : decode cX5_goOneTurn 114 = .ok (.if_icmp .ge 19, 3) := by decide +kernel
theorem dX5_goOneTurn_117 : decode cX5_goOneTurn 117 = .ok (.aload_n 0, 1) := by decide +kernel
theorem dX5_goOneTurn_118 : decode cX5_goOneTurn 118 = .ok (.aload_n 0, 1) := by decide +kernel
theorem dX5_goOneTurn_119 : decode cX5_goOneTurn 119 = .ok (.getfield 23, 3) := by decide +kernel
theorem dX5_goOneTurn_122 : decode cX5_goOneTurn 122 = .ok (.iload_n 1, 1) := by decide +kernel
theorem dX5_goOneTurn_123 : decode cX5_goOneTurn 123 = .ok (.aaload, 1) := by decide +kernel
theorem dX5_goOneTurn_124 : decode cX5_goOneTurn 124 = .ok (.invokevirtual 177, 3) := by decide +kernel
theorem dX5_goOneTurn_127 : decode cX5_goOneTurn 127 = .ok (.iinc 1 1, 3) := by decide +kernel
theorem dX5_goOneTurn_130 : decode cX5_goOneTurn 130 = .ok (.goto (-18), 3) := by decide +kernel
theorem dX5_goOneTurn_133 : decode cX5_goOneTurn 133 = .ok (.aload_n 0, 1) := by decide +kernel
theorem dX5_goOneTurn_134 : decode cX5_goOneTurn 134 = .ok (.dup, 1) := by decide +kernel
theorem dX5_goOneTurn_135 : decode cX5_goOneTurn 135 = .ok (.getfield 31, 3) := by decide +kernel
theorem dX5_goOneTurn_138 : decode cX5_goOneTurn 138 = .ok (.iconst 2, 1) := by decide +kernel
theorem dX5_goOneTurn_139 : decode cX5_goOneTurn 139 = .ok (.iadd, 1) := by decide +kernel
theorem dX5_goOneTurn_140 : decode cX5_goOneTurn 140 = .ok (.putfield 31, 3) := by decide +kernel
theorem dX5_goOneTurn_143 : decode cX5_goOneTurn 143 = .ok (.return_, 1) := by decide +kernel
theorem dX5_heardInTurns_0 : decode cX5_heardInTurns 0 = .ok (.aload_n 0, 1) := by decide +kernel
theorem dX5_heardInTurns_1 : decode cX5_heardInTurns 1 = .ok (.iconst 0, 1) := by decide +kernel
theorem dX5_heardInTurns_2 : decode cX5_heardInTurns 2 = .ok (.putfield 43, 3) := by decide +kernel
theorem dX5_heardInTurns_5 : decode cX5_heardInTurns 5 = .ok (.iconst 0, 1) := by decide +kernel
theorem dX5_heardInTurns_6 : decode cX5_heardInTurns 6 = .ok (.istore_n 2, 1) := by decide +kernel
theorem dX5_heardInTurns_7 : decode cX5_heardInTurns 7 = .ok (.iload_n 2, 1) := by decide +kernel
theorem dX5_heardInTurns_8 : decode cX5_heardInTurns 8 = .ok (.iload_n 1, 1) := by decide +kernel
theorem dX5_heardInTurns_9 : decode cX5_heardInTurns 9 = .ok (.if_icmp .ge 13, 3) := by decide +kernel
theorem dX5_heardInTurns_12 : decode cX5_heardInTurns 12 = .ok (.aload_n 0, 1) := by decide +kernel
theorem dX5_heardInTurns_13 : decode cX5_heardInTurns 13 = .ok (.invokevirtual 149, 3) := by decide +kernel
theorem dX5_heardInTurns_16 : decode cX5_heardInTurns 16 = .ok (.iinc 2 1, 3) := by decide +kernel
theorem dX5_heardInTurns_19 : decode cX5_heardInTurns 19 = .ok (.goto (-12), 3) := by decide +kernel
theorem dX5_heardInTurns_22 : decode cX5_heardInTurns 22 = .ok (.aload_n 0, 1) := by decide +kernel
theorem dX5_heardInTurns_23 : decode cX5_heardInTurns 23 = .ok (.getfield 43, 3) := by decide +kernel
theorem dX5_heardInTurns_26 : decode cX5_heardInTurns 26 = .ok (.ireturn, 1) := by decide +kernel
theorem dX5_copyFrom_0 : decode cX5_copyFrom 0 = .ok (.aload_n 1, 1) := by decide +kernel
theorem dX5_copyFrom_1 : decode cX5_copyFrom 1 = .ok (.getfield 9, 3) := by decide +kernel
theorem dX5_copyFrom_4 : decode cX5_copyFrom 4 = .ok (.iconst 0, 1) := by decide +kernel
theorem dX5_copyFrom_5 : decode cX5_copyFrom 5 = .ok (.aload_n 0, 1) := by decide +kernel
theorem dX5_copyFrom_6 : decode cX5_copyFrom 6 = .ok (.getfield 9, 3) := by decide +kernel
theorem dX5_copyFrom_9 : decode cX5_copyFrom 9 = .ok (.iconst 0, 1) := by decide +kernel
theorem dX5_copyFrom_10 : decode cX5_copyFrom 10 = .ok (.bipush 6, 2) := by decide +kernel
theorem dX5_copyFrom_12 : decode cX5_copyFrom 12 = .ok (.invokestatic 47, 3) := by decide +kernel
theorem dX5_copyFrom_15 : decode cX5_copyFrom 15 = .ok (.aload_n 1, 1) := by decide +kernel
theorem dX5_copyFrom_16 : decode cX5_copyFrom 16 = .ok (.getfield 15, 3) := by decide +kernel
theorem dX5_copyFrom_19 : decode cX5_copyFrom 19 = .ok (.iconst 0, 1) := by decide +kernel
theorem dX5_copyFrom_20 : decode cX5_copyFrom 20 = .ok (.aload_n 0, 1) := by decide +kernel
theorem dX5_copyFrom_21 : decode cX5_copyFrom 21 = .ok (.getfield 15, 3) := by decide +kernel
theorem dX5_copyFrom_24 : decode cX5_copyFrom 24 = .ok (.iconst 0, 1) := by decide +kernel
theorem dX5_copyFrom_25 : decode cX5_copyFrom 25 = .ok (.bipush 23, 2) := by decide +kernel
theorem dX5_copyFrom_27 : decode cX5_copyFrom 27 = .ok (.invokestatic 47, 3) := by decide +kernel
theorem dX5_copyFrom_30 : decode cX5_copyFrom 30 = .ok (.aload_n 1, 1) := by decide +kernel
theorem dX5_copyFrom_31 : decode cX5_copyFrom 31 = .ok (.getfield 18, 3) := by decide +kernel
theorem dX5_copyFrom_34 : decode cX5_copyFrom 34 = .ok (.iconst 0, 1) := by decide +kernel
theorem dX5_copyFrom_35 : decode cX5_copyFrom 35 = .ok (.aload_n 0, 1) := by decide +kernel
theorem dX5_copyFrom_36 : decode cX5_copyFrom 36 = .ok (.getfield 18, 3) := by decide +kernel
theorem dX5_copyFrom_39 : decode cX5_copyFrom 39 = .ok (.iconst 0, 1) := by decide +kernel
theorem dX5_copyFrom_40 : decode cX5_copyFrom 40 = .ok (.bipush 9, 2) := by decide +kernel
theorem dX5_copyFrom_42 : decode cX5_copyFrom 42 = .ok (.invokestatic 47, 3) := by decide +kernel
theorem dX5_copyFrom_45 : decode cX5_copyFrom 45 = .ok (.iconst 0, 1) := by decide +kernel
theorem dX5_copyFrom_46 : decode cX5_copyFrom 46 = .ok (.istore_n 2, 1) := by decide +kernel
theorem dX5_copyFrom_47 : decode cX5_copyFrom 47 = .ok (.iload_n 2, 1) := by decide +kernel
theorem dX5_copyFrom_48 : decode cX5_copyFrom 48 = .ok (.iconst 2, 1) := by decide +kernel
theorem dX5_copyFrom_49 : decode cX5_copyFrom 49 = .ok (.if_icmp .ge 24, 3) := by decide +kernel
theorem dX5_copyFrom_52 : decode cX5_copyFrom 52 = .ok (.aload_n 0, 1) := by decide +kernel
theorem dX5_copyFrom_53 : decode cX5_copyFrom 53 = .ok (.getfield 23, 3) := by decide +kernel
theorem dX5_copyFrom_56 : decode cX5_copyFrom 56 = .ok (.iload_n 2, 1) := by decide +kernel
theorem dX5_copyFrom_57 : decode cX5_copyFrom 57 = .ok (.aaload, 1) := by decide +kernel
theorem dX5_copyFrom_58 : decode cX5_copyFrom 58 = .ok (.aload_n 1, 1) := by decide +kernel
theorem dX5_copyFrom_59 : decode cX5_copyFrom 59 = .ok (.getfield 23, 3) := by decide +kernel
theorem dX5_copyFrom_62 : decode cX5_copyFrom 62 = .ok (.iload_n 2, 1) := by decide +kernel
theorem dX5_copyFrom_63 : decode cX5_copyFrom 63 = .ok (.aaload, 1) := by decide +kernel
theorem dX5_copyFrom_64 : decode cX5_copyFrom 64 = .ok (.invokevirtual 53, 3) := by decide +kernel
theorem dX5_copyFrom_67 : decode cX5_copyFrom 67 = .ok (.iinc 2 1, 3) := by decide +kernel
theorem dX5_copyFrom_70 : decode cX5_copyFrom 70 = .ok (.goto (-23), 3) := by decide +kernel
theorem dX5_copyFrom_73 : decode cX5_copyFrom 73 = .ok (.aload_n 0, 1) := by decide +kernel
theorem dX5_copyFrom_74 : decode cX5_copyFrom 74 = .ok (.aload_n 1, 1) := by decide +kernel
theorem dX5_copyFrom_75 : decode cX5_copyFrom 75 = .ok (.getfield 27, 3) := by decide +kernel
theorem dX5_copyFrom_78 : decode cX5_copyFrom 78 = .ok (.putfield 27, 3) := by decide +kernel
theorem dX5_copyFrom_81 : decode cX5_copyFrom 81 = .ok (.aload_n 0, 1) := by decide +kernel
theorem dX5_copyFrom_82 : decode cX5_copyFrom 82 = .ok (.aload_n 1, 1) := by decide +kernel
theorem dX5_copyFrom_83 : decode cX5_copyFrom 83 = .ok (.getfield 31, 3) := by decide +kernel
theorem dX5_copyFrom_86 : decode cX5_copyFrom 86 = .ok (.putfield 31, 3) := by decide +kernel
theorem dX5_copyFrom_89 : decode cX5_copyFrom 89 = .ok (.aload_n 0, 1) := by decide +kernel
theorem dX5_copyFrom_90 : decode cX5_copyFrom 90 = .ok (.aload_n 1, 1) := by decide +kernel
theorem dX5_copyFrom_91 : decode cX5_copyFrom 91 = .ok (.getfield 34, 3) := by decide +kernel
theorem dX5_copyFrom_94 : decode cX5_copyFrom 94 = .ok (.putfield 34, 3) := by decide +kernel
theorem dX5_copyFrom_97 : decode cX5_copyFrom 97 = .ok (.aload_n 0, 1) := by decide +kernel
theorem dX5_copyFrom_98 : decode cX5_copyFrom 98 = .ok (.aload_n 1, 1) := by decide +kernel
theorem dX5_copyFrom_99 : decode cX5_copyFrom 99 = .ok (.getfield 37, 3) := by decide +kernel
theorem dX5_copyFrom_102 : decode cX5_copyFrom 102 = .ok (.putfield 37, 3) := by decide +kernel
theorem dX5_copyFrom_105 : decode cX5_copyFrom 105 = .ok (.aload_n 0, 1) := by decide +kernel
theorem dX5_copyFrom_106 : decode cX5_copyFrom 106 = .ok (.aload_n 1, 1) := by decide +kernel
theorem dX5_copyFrom_107 : decode cX5_copyFrom 107 = .ok (.getfield 40, 3) := by decide +kernel
theorem dX5_copyFrom_110 : decode cX5_copyFrom 110 = .ok (.putfield 40, 3) := by decide +kernel
theorem dX5_copyFrom_113 : decode cX5_copyFrom 113 = .ok (.return_, 1) := by decide +kernel
theorem lk_RX5_209 : LkV RX5 209 RX2 yX2_firstWithOpenFrame cX2_firstWithOpenFrame 2 (some .int) 0 := ⟨⟨mw_703, mw_704, mw_705, mw_54, mw_706⟩, by decide +kernel⟩
theorem lk_RX5_213 : LkV RX5 213 RX2 yX2_firstNotKnown cX2_firstNotKnown 2 (some .int) 0 := ⟨⟨mw_707, mw_708, mw_709, mw_54, mw_710⟩, by decide +kernel⟩
theorem lk_RX5_219 : LkV RX5 219 RX2 yX2_nextPolled cX2_nextPolled 6 (some .int) 0 := ⟨⟨mw_711, mw_712, mw_713, mw_54, mw_714⟩, by decide +kernel⟩
set_option maxHeartbeats 4000000 in
set_option maxRecDepth 100000 in
theorem d_X5_chooseIn (l : Launch) (E : hE) (ρ r : Nat → Nat → Int32) (S : Nat × Nat → Prop) (hSS : SK S) (k : Nat) (h : hk k = 5) (na1 : Nat) (lna1 : 0 ≤ na1) (una1 : na1 ≤ 1) (hI : CI r S ρ) (hne : ∀ x, S x → x.1 ≠ ((k + 4) + 1 + 42 * na1)) : Met l yX5_chooseIn (.code yX5_chooseIn cX5_chooseIn 4 none :: gw_all) (rmk 3 120) (cPre E ρ [.ref (E.2.1 + k), .int (nI na1)]) (cV E (fun ρ1 => CI r (SA S ((k + 4) + 1 + 42 * na1) 0) ρ1)) 0 0 (hA E) := by
  refine ent (own := RX5) (by decide) rfl (Nat.le_of_ble_eq_true rfl) ?_
  intro p e s m below meth c ls B hr hlk hl hP hS
  have hx := B.1.1
  have hb := B.1.2.1
  have hown := B.1.2.2.2.1
  have hts := B.1.2.2.2.2
  have hl : lv_has ls 4 [(0, .ref (E.2.1 + k)), (1, .int (nI na1))] := hl
  have b103_0 : ∀ (ls : Array Slot) (ρ : Nat → Nat → Int32) (H : Heap) (locs : List Loc) , lv_has ls 4 [(2, .ref (E.2.1 + ((k + 4) + 1 + 42 * na1)))] → WP E ρ H → va_S (hA E) s.heap H locs → CI r (SA S ((k + 4) + 1 + 42 * na1) 0) ρ → 0 ≤ na1 → na1 ≤ 1 → W p l e (rmk 3 120) s m ([.ref (E.2.1 + k), .int (nI na1)] : List Value).toArray below meth c H locs 0 0 (MQ below (cV E (fun ρ1 => CI r (SA S ((k + 4) + 1 + 42 * na1) 0) ρ1)) ([.ref (E.2.1 + k), .int (nI na1)] : List Value).toArray s 0 0 (hA E)) (F0 m 103 ls []) := by
    intro ls ρ H locs  hl hP hS hI tlna1 tuna1
    refine lv_aload_n hx hb dX5_chooseIn_103 rfl (lv_at hl 0 rfl) ?_
    refine lv_aload_n hx hb dX5_chooseIn_104 rfl (lv_at hl 0 rfl) ?_
    refine get2 B hP (lay5n (n := na1) h (by omega)) 15 (by decide) mw_320 rfl dX5_chooseIn_105 ?_
    refine call_q (cVt (k := ((k + 4) + 1 + 42 * na1)) (av := [.int (ρ ((k + 4) + 1 + 42 * na1) 15)]) (rest := []) B hP hS (d_X2_linkAt l E ρ r (SA S ((k + 4) + 1 + 42 * na1) 0) (hSA hSS (lay5n h (show na1 < 2 by omega)) (by decide)) ((k + 4) + 1 + 42 * na1) (lay5n (n := na1) h (by omega)) (ρ ((k + 4) + 1 + 42 * na1) 15) hI) lk_RX5_64 (hrecv (ci := 2) B hP (hk_lt (c := 2) (lay5n (n := na1) h (by omega)) (by decide)) (hcc2 _ _ (lay5n (n := na1) h (by omega))) rfl) rfl rfl hl.1 (Nat.le_of_ble_eq_true rfl) ⟨Nat.le_of_ble_eq_true rfl, Nat.le_of_ble_eq_true rfl⟩ ⟨Nat.le_of_ble_eq_true rfl, Nat.le_of_ble_eq_true rfl⟩ dX5_chooseIn_108) hS (fun r56 ρ57 H locs q58 hP hS => ?_)
    obtain ⟨rfl, hI, q58⟩ := q58
    rcases q58 with rfl | ⟨j59, k60, rfl, hk60, ej59, uj59, gj59⟩
    · skip
      refine W.eq (g2 := F0 m 111 ls [.null]) rfl ?_
      refine lv_astore_nN (lv' := [(3, .null), (2, .ref (E.2.1 + ((k + 4) + 1 + 42 * na1)))]) hx hb dX5_chooseIn_111 rfl hl (by decide) rfl (fun ls hl => ?_)
      refine lv_aload_nN hx hb dX5_chooseIn_112 rfl (lv_at hl 0 rfl) ?_
      refine lv_ifnullN (tgt := 126) hx hb dX5_chooseIn_113 (by decide) ?_
      exact ret_v B hr hlk hP hS dX5_chooseIn_126 (hI)
    · skip
      refine W.eq (g2 := F0 m 111 ls [.ref (E.2.1 + k60)]) rfl ?_
      have i61 : iR (ρ ((k + 4) + 1 + 42 * na1) 8) 1 4 := iR_w gj59 (by omega) (by omega)
      refine lv_astore_n (lv' := [(3, .ref (E.2.1 + k60)), (2, .ref (E.2.1 + ((k + 4) + 1 + 42 * na1)))]) hx hb dX5_chooseIn_111 rfl hl (by decide) rfl (fun ls hl => ?_)
      refine lv_aload_n hx hb dX5_chooseIn_112 rfl (lv_at hl 0 rfl) ?_
      refine lv_ifnull hx hb dX5_chooseIn_113 ?_
      refine lv_aload_n hx hb dX5_chooseIn_116 rfl (lv_at hl 0 rfl) ?_
      refine lv_dup hx hb dX5_chooseIn_117 rfl ?_
      refine get1 B hP hk60 13 (by decide) mw_231 rfl dX5_chooseIn_118 ?_
      refine lv_iconst (v := 1) hx hb dX5_chooseIn_121 (by decide) ?_
      refine lv_iadd hx hb dX5_chooseIn_122 ?_
      refine put1 B hP hS hk60 13 (by decide) mw_231 rfl rfl rfl (fs1_13 E k60 _ _) dX5_chooseIn_123 (fun H locs hP hS => ?_)
      obtain ⟨ρ62, e63⟩ : ∃ z, z = up ρ k60 13 ((ρ k60 13) + 1) := ⟨_, rfl⟩
      rw [← e63] at hP
      have hI : CI r (SA S ((k + 4) + 1 + 42 * na1) 0) ρ62 := by rw [e63]; exact CI_up hI (kind_lt hk60 (by decide)) (SP_plain hk60 rfl (by decide)) ⟨(fun z2 => absurd (Eq.trans (Eq.symm hk60) z2) (by decide)), (fun z2 => absurd (Eq.trans (Eq.symm hk60) z2) (by decide))⟩ (hSA hSS (lay5n h (show na1 < 2 by omega)) (by decide))
      exact ret_v B hr hlk hP hS dX5_chooseIn_126 (hI)
  have b87_0 : ∀ (ls : Array Slot) (ρ : Nat → Nat → Int32) (H : Heap) (locs : List Loc) , lv_has ls 4 [(2, .ref (E.2.1 + ((k + 4) + 1 + 42 * na1)))] → WP E ρ H → va_S (hA E) s.heap H locs → CI r (SA S ((k + 4) + 1 + 42 * na1) 0) ρ → 0 ≤ na1 → na1 ≤ 1 → W p l e (rmk 3 120) s m ([.ref (E.2.1 + k), .int (nI na1)] : List Value).toArray below meth c H locs 0 0 (MQ below (cV E (fun ρ1 => CI r (SA S ((k + 4) + 1 + 42 * na1) 0) ρ1)) ([.ref (E.2.1 + k), .int (nI na1)] : List Value).toArray s 0 0 (hA E)) (F0 m 87 ls []) := by
    intro ls ρ H locs  hl hP hS hI tlna1 tuna1
    refine lv_aload_n hx hb dX5_chooseIn_87 rfl (lv_at hl 0 rfl) ?_
    refine get2 B hP (lay5n (n := na1) h (by omega)) 15 (by decide) mw_320 rfl dX5_chooseIn_88 ?_
    refine lv_iconst (v := (-1)) hx hb dX5_chooseIn_91 (by decide) ?_
    refine lv_icmp_ne (tgt := 103) hx hb dX5_chooseIn_92 (by decide) (fun c64 => ?_) (fun c64 => ?_)
    · skip
      exact b103_0 ls ρ _ _  (lv_sub hl [0] rfl) hP hS hI (by omega) (by omega)
    · skip
      have i65 : iR (ρ ((k + 4) + 1 + 42 * na1) 15) (-1) (-1) := (by rw [c64]; exact ⟨by decide, by decide⟩)
      refine lv_aload_n hx hb dX5_chooseIn_95 rfl (lv_at hl 0 rfl) ?_
      refine lv_aload_n hx hb dX5_chooseIn_96 rfl (lv_at hl 0 rfl) ?_
      refine call_i (cVt (k := ((k + 4) + 1 + 42 * na1)) (av := []) (rest := [.ref (E.2.1 + ((k + 4) + 1 + 42 * na1))]) B hP hS (d_X2_nextPolled l E ρ r (SA S ((k + 4) + 1 + 42 * na1) 0) (hSA hSS (lay5n h (show na1 < 2 by omega)) (by decide)) ((k + 4) + 1 + 42 * na1) (lay5n (n := na1) h (by omega)) hI) lk_RX5_219 (hrecv (ci := 2) B hP (hk_lt (c := 2) (lay5n (n := na1) h (by omega)) (by decide)) (hcc2 _ _ (lay5n (n := na1) h (by omega))) rfl) rfl rfl hl.1 (Nat.le_of_ble_eq_true rfl) ⟨Nat.le_of_ble_eq_true rfl, Nat.le_of_ble_eq_true rfl⟩ ⟨Nat.le_of_ble_eq_true rfl, Nat.le_of_ble_eq_true rfl⟩ dX5_chooseIn_97) hS (fun r66 ρ67 H locs q68 hP hS => ?_)
      have hI := q68
      refine put2 B hP hS (lay5n (n := na1) h (by omega)) 15 (by decide) mw_320 rfl rfl rfl (fs2_15 E ((k + 4) + 1 + 42 * na1) _ _) dX5_chooseIn_100 (fun H locs hP hS => ?_)
      obtain ⟨ρ70, e71⟩ : ∃ z, z = up ρ67 ((k + 4) + 1 + 42 * na1) 15 r66 := ⟨_, rfl⟩
      rw [← e71] at hP
      have hI : CI r (SA S ((k + 4) + 1 + 42 * na1) 0) ρ70 := by rw [e71]; exact CI_up hI (kind_lt (lay5n (n := na1) h (by omega)) (by decide)) (SP_plain (lay5n (n := na1) h (by omega)) rfl (by decide)) ⟨(fun _ => ⟨by decide, by decide, by decide⟩), (fun z2 => absurd (Eq.trans (Eq.symm (lay5n (n := na1) h (by omega))) z2) (by decide))⟩ (hSA hSS (lay5n h (show na1 < 2 by omega)) (by decide))
      exact b103_0 ls ρ70 _ _  (lv_sub hl [0] rfl) hP hS hI (by omega) (by omega)
  have b66_0 : ∀ (ls : Array Slot) (ρ : Nat → Nat → Int32) (H : Heap) (locs : List Loc) , lv_has ls 4 [(2, .ref (E.2.1 + ((k + 4) + 1 + 42 * na1)))] → WP E ρ H → va_S (hA E) s.heap H locs → CI r (SA S ((k + 4) + 1 + 42 * na1) 0) ρ → 0 ≤ na1 → na1 ≤ 1 → W p l e (rmk 3 120) s m ([.ref (E.2.1 + k), .int (nI na1)] : List Value).toArray below meth c H locs 0 0 (MQ below (cV E (fun ρ1 => CI r (SA S ((k + 4) + 1 + 42 * na1) 0) ρ1)) ([.ref (E.2.1 + k), .int (nI na1)] : List Value).toArray s 0 0 (hA E)) (F0 m 66 ls []) := by
    intro ls ρ H locs  hl hP hS hI tlna1 tuna1
    refine lv_aload_n hx hb dX5_chooseIn_66 rfl (lv_at hl 0 rfl) ?_
    refine get2 B hP (lay5n (n := na1) h (by omega)) 15 (by decide) mw_320 rfl dX5_chooseIn_67 ?_
    refine lv_iconst (v := (-1)) hx hb dX5_chooseIn_70 (by decide) ?_
    refine lv_icmp_ne (tgt := 87) hx hb dX5_chooseIn_71 (by decide) (fun c72 => ?_) (fun c72 => ?_)
    · skip
      exact b87_0 ls ρ _ _  (lv_sub hl [0] rfl) hP hS hI (by omega) (by omega)
    · skip
      have i73 : iR (ρ ((k + 4) + 1 + 42 * na1) 15) (-1) (-1) := (by rw [c72]; exact ⟨by decide, by decide⟩)
      refine lv_aload_n hx hb dX5_chooseIn_74 rfl (lv_at hl 0 rfl) ?_
      refine get2 B hP (lay5n (n := na1) h (by omega)) 11 (by decide) mw_311 rfl dX5_chooseIn_75 ?_
      have i74 : iR (ρ ((k + 4) + 1 + 42 * na1) 11) 0 4 := CI_get hI (kind_lt (lay5n (n := na1) h (by omega)) (by decide)) (lay5n (n := na1) h (by omega)) rfl
      obtain ⟨j75, lj75, uj75, ej75⟩ := iR_nat (a := 0) (b := 4) i74
      refine lv_topi (fun z76 ez76 => ?_)
      obtain rfl : z76 = nI j75 := ez76.trans ej75
      refine lv_if_le (tgt := 87) hx hb dX5_chooseIn_78 (by decide) (fun c77 => ?_) (fun c77 => ?_)
      · skip
        have n78 := mt (nx_lt (a := 0) (b := j75) (by omega) (by omega)).mpr (show ¬ (nI 0 < nI j75) from (Int32.not_lt.mpr c77))
        exact b87_0 ls ρ _ _  (lv_sub hl [0] rfl) hP hS hI (by omega) (by omega)
      · skip
        have n79 := (nx_lt (a := 0) (b := j75) (by omega) (by omega)).mp (show (nI 0 < nI j75) from (Int32.not_le.mp c77))
        refine lv_aload_n hx hb dX5_chooseIn_81 rfl (lv_at hl 0 rfl) ?_
        refine lv_iconst (v := 1) hx hb dX5_chooseIn_82 (by decide) ?_
        refine put2 B hP hS (lay5n (n := na1) h (by omega)) 14 (by decide) mw_317 rfl rfl rfl (fs2_14 E ((k + 4) + 1 + 42 * na1) _ _) dX5_chooseIn_83 (fun H locs hP hS => ?_)
        obtain ⟨ρ80, e81⟩ : ∃ z, z = up ρ ((k + 4) + 1 + 42 * na1) 14 1 := ⟨_, rfl⟩
        rw [← e81] at hP
        have hI : CI r (SA S ((k + 4) + 1 + 42 * na1) 0) ρ80 := by rw [e81]; exact CI_cast1 hI (lay5n (n := na1) h (by omega)) hne (by rw [show ρ ((k + 4) + 1 + 42 * na1) 11 = (nI j75) from ej75]; exact iR_w (nI_iR (j := j75) (a := 1) (b := 4) (by omega) (by omega) (by omega)) (by decide) (by decide))
        exact ret_v B hr hlk hP hS dX5_chooseIn_86 (hI)
  refine lv_aload_n hx hb dX5_chooseIn_0 rfl (lv_at hl 0 rfl) ?_
  refine get5 B hP h 3 (by decide) mw_377 rfl dX5_chooseIn_1 ?_
  refine lv_iload_n hx hb dX5_chooseIn_4 rfl (lv_at hl 1 rfl) ?_
  refine aldNn (j := na1) B hP (lay5 h).2.2.2.2.2.2.1 (lay5 h).2.2.2.2.2.2.2.1 rfl (by omega) dX5_chooseIn_5 ?_
  refine lv_astore_n (lv' := [(2, .ref (E.2.1 + ((k + 4) + 1 + 42 * na1))), (0, .ref (E.2.1 + k)), (1, .int (nI na1))]) hx hb dX5_chooseIn_6 rfl hl (by decide) rfl (fun ls hl => ?_)
  refine lv_aload_n hx hb dX5_chooseIn_7 rfl (lv_at hl 0 rfl) ?_
  refine lv_iconst (v := (-1)) hx hb dX5_chooseIn_8 (by decide) ?_
  refine put2 B hP hS (lay5n (n := na1) h (by omega)) 15 (by decide) mw_320 rfl rfl rfl (fs2_15 E ((k + 4) + 1 + 42 * na1) _ _) dX5_chooseIn_9 (fun H locs hP hS => ?_)
  obtain ⟨ρ82, e83⟩ : ∃ z, z = up ρ ((k + 4) + 1 + 42 * na1) 15 (-1) := ⟨_, rfl⟩
  rw [← e83] at hP
  have hI : CI r S ρ82 := by rw [e83]; exact CI_up hI (kind_lt (lay5n (n := na1) h (by omega)) (by decide)) (SP_plain (lay5n (n := na1) h (by omega)) rfl (by decide)) ⟨(fun _ => ⟨by decide, by decide, by decide⟩), (fun z2 => absurd (Eq.trans (Eq.symm (lay5n (n := na1) h (by omega))) z2) (by decide))⟩ hSS
  refine lv_aload_n hx hb dX5_chooseIn_12 rfl (lv_at hl 0 rfl) ?_
  refine lv_iconst (v := 0) hx hb dX5_chooseIn_13 (by decide) ?_
  refine put2 B hP hS (lay5n (n := na1) h (by omega)) 14 (by decide) mw_317 rfl rfl rfl (fs2_14 E ((k + 4) + 1 + 42 * na1) _ _) dX5_chooseIn_14 (fun H locs hP hS => ?_)
  obtain ⟨ρ84, e85⟩ : ∃ z, z = up ρ82 ((k + 4) + 1 + 42 * na1) 14 0 := ⟨_, rfl⟩
  rw [← e85] at hP
  have hI : CI r (SA S ((k + 4) + 1 + 42 * na1) 0) ρ84 := by rw [e85]; exact CI_cast0 hI (lay5n (n := na1) h (by omega)) hne
  refine lv_aload_n hx hb dX5_chooseIn_17 rfl (lv_at hl 0 rfl) ?_
  refine get2 B hP (lay5n (n := na1) h (by omega)) 5 (by decide) mw_296 rfl dX5_chooseIn_18 ?_
  refine lv_iconst (v := (-1)) hx hb dX5_chooseIn_21 (by decide) ?_
  refine lv_icmp_eq (tgt := 41) hx hb dX5_chooseIn_22 (by decide) (fun c86 => ?_) (fun c86 => ?_)
  · skip
    have i87 : iR (ρ84 ((k + 4) + 1 + 42 * na1) 5) (-1) (-1) := (by rw [c86]; exact ⟨by decide, by decide⟩)
    exact ret_v B hr hlk hP hS dX5_chooseIn_41 (hI)
  · skip
    refine lv_aload_n hx hb dX5_chooseIn_25 rfl (lv_at hl 1 rfl) ?_
    refine lv_aload_n hx hb dX5_chooseIn_26 rfl (lv_at hl 0 rfl) ?_
    refine get2 B hP (lay5n (n := na1) h (by omega)) 5 (by decide) mw_296 (v := .int (ρ84 ((k + 4) + 1 + 42 * na1) 5)) (show some (Value.int (ρ84 ((k + 4) + 1 + 42 * na1) 5)) = some (Value.int (ρ84 ((k + 4) + 1 + 42 * na1) 5)) from congrArg (fun z => some (Value.int z)) rfl) dX5_chooseIn_27 ?_
    refine lv_iload_n hx hb dX5_chooseIn_30 rfl (lv_at hl 2 rfl) ?_
    refine lv_aload_n hx hb dX5_chooseIn_31 rfl (lv_at hl 1 rfl) ?_
    refine get5 B hP h 5 (by decide) mw_381 rfl dX5_chooseIn_32 ?_
    refine call_i (cVt (k := k) (av := [.int (ρ84 ((k + 4) + 1 + 42 * na1) 5), .int (nI na1), .int (ρ84 k 5)]) (rest := []) B hP hS (d_X5_isPresent l E ρ84 r (SA S ((k + 4) + 1 + 42 * na1) 0) (hSA hSS (lay5n h (show na1 < 2 by omega)) (by decide)) k h (ρ84 ((k + 4) + 1 + 42 * na1) 5) na1 (by omega) (by omega) (ρ84 k 5) hI) lk_RX5_77 (hrecv (ci := 5) B hP (hk_lt (c := 5) h (by decide)) (hcc5 _ _ h) rfl) rfl rfl hl.1 (Nat.le_of_ble_eq_true rfl) ⟨Nat.le_of_ble_eq_true rfl, Nat.le_of_ble_eq_true rfl⟩ ⟨Nat.le_of_ble_eq_true rfl, Nat.le_of_ble_eq_true rfl⟩ dX5_chooseIn_35) hS (fun r88 ρ89 H locs q90 hP hS => ?_)
    obtain ⟨rfl, hI, i91⟩ := q90
    obtain ⟨j92, lj92, uj92, ej92⟩ := iR_nat (a := 0) (b := 1) i91
    refine lv_topi (fun z93 ez93 => ?_)
    obtain rfl : z93 = nI j92 := ez93.trans ej92
    refine lv_if_ne (tgt := 42) hx hb dX5_chooseIn_38 (by decide) (fun c94 => ?_) (fun c94 => ?_)
    · skip
      have n95 := mt (nI_eq (a := j92) (b := 0) (by omega) (by omega)).mpr (show ¬ (nI j92 = nI 0) from c94)
      refine lv_aload_n hx hb dX5_chooseIn_42 rfl (lv_at hl 0 rfl) ?_
      refine lv_aload_n hx hb dX5_chooseIn_43 rfl (lv_at hl 0 rfl) ?_
      refine call_i (cVt (k := ((k + 4) + 1 + 42 * na1)) (av := []) (rest := [.ref (E.2.1 + ((k + 4) + 1 + 42 * na1))]) B hP hS (d_X2_firstWithOpenFrame l E ρ84 r (SA S ((k + 4) + 1 + 42 * na1) 0) (hSA hSS (lay5n h (show na1 < 2 by omega)) (by decide)) ((k + 4) + 1 + 42 * na1) (lay5n (n := na1) h (by omega)) hI) lk_RX5_209 (hrecv (ci := 2) B hP (hk_lt (c := 2) (lay5n (n := na1) h (by omega)) (by decide)) (hcc2 _ _ (lay5n (n := na1) h (by omega))) rfl) rfl rfl hl.1 (Nat.le_of_ble_eq_true rfl) ⟨Nat.le_of_ble_eq_true rfl, Nat.le_of_ble_eq_true rfl⟩ ⟨Nat.le_of_ble_eq_true rfl, Nat.le_of_ble_eq_true rfl⟩ dX5_chooseIn_44) hS (fun r96 ρ97 H locs q98 hP hS => ?_)
      obtain ⟨rfl, hI⟩ := q98
      refine put2 B hP hS (lay5n (n := na1) h (by omega)) 15 (by decide) mw_320 rfl rfl rfl (fs2_15 E ((k + 4) + 1 + 42 * na1) _ _) dX5_chooseIn_47 (fun H locs hP hS => ?_)
      obtain ⟨ρ100, e101⟩ : ∃ z, z = up ρ84 ((k + 4) + 1 + 42 * na1) 15 r96 := ⟨_, rfl⟩
      rw [← e101] at hP
      have hI : CI r (SA S ((k + 4) + 1 + 42 * na1) 0) ρ100 := by rw [e101]; exact CI_up hI (kind_lt (lay5n (n := na1) h (by omega)) (by decide)) (SP_plain (lay5n (n := na1) h (by omega)) rfl (by decide)) ⟨(fun _ => ⟨by decide, by decide, by decide⟩), (fun z2 => absurd (Eq.trans (Eq.symm (lay5n (n := na1) h (by omega))) z2) (by decide))⟩ (hSA hSS (lay5n h (show na1 < 2 by omega)) (by decide))
      refine lv_aload_n hx hb dX5_chooseIn_50 rfl (lv_at hl 0 rfl) ?_
      refine get2 B hP (lay5n (n := na1) h (by omega)) 15 (by decide) mw_320 (v := .int r96) (show some (Value.int (ρ100 ((k + 4) + 1 + 42 * na1) 15)) = some (Value.int r96) from congrArg (fun z => some (Value.int z)) (by rw [e101]; exact up_get_at)) dX5_chooseIn_51 ?_
      refine lv_iconst (v := (-1)) hx hb dX5_chooseIn_54 (by decide) ?_
      refine lv_icmp_ne (tgt := 66) hx hb dX5_chooseIn_55 (by decide) (fun c102 => ?_) (fun c102 => ?_)
      · skip
        exact b66_0 ls ρ100 _ _  (lv_sub hl [0] rfl) hP hS hI (by omega) (by omega)
      · skip
        have i103 : iR r96 (-1) (-1) := (by rw [c102]; exact ⟨by decide, by decide⟩)
        refine lv_aload_n hx hb dX5_chooseIn_58 rfl (lv_at hl 0 rfl) ?_
        refine lv_aload_n hx hb dX5_chooseIn_59 rfl (lv_at hl 0 rfl) ?_
        refine call_i (cVt (k := ((k + 4) + 1 + 42 * na1)) (av := []) (rest := [.ref (E.2.1 + ((k + 4) + 1 + 42 * na1))]) B hP hS (d_X2_firstNotKnown l E ρ100 r (SA S ((k + 4) + 1 + 42 * na1) 0) (hSA hSS (lay5n h (show na1 < 2 by omega)) (by decide)) ((k + 4) + 1 + 42 * na1) (lay5n (n := na1) h (by omega)) hI) lk_RX5_213 (hrecv (ci := 2) B hP (hk_lt (c := 2) (lay5n (n := na1) h (by omega)) (by decide)) (hcc2 _ _ (lay5n (n := na1) h (by omega))) rfl) rfl rfl hl.1 (Nat.le_of_ble_eq_true rfl) ⟨Nat.le_of_ble_eq_true rfl, Nat.le_of_ble_eq_true rfl⟩ ⟨Nat.le_of_ble_eq_true rfl, Nat.le_of_ble_eq_true rfl⟩ dX5_chooseIn_60) hS (fun r104 ρ105 H locs q106 hP hS => ?_)
        obtain ⟨rfl, hI⟩ := q106
        refine put2 B hP hS (lay5n (n := na1) h (by omega)) 15 (by decide) mw_320 rfl rfl rfl (fs2_15 E ((k + 4) + 1 + 42 * na1) _ _) dX5_chooseIn_63 (fun H locs hP hS => ?_)
        obtain ⟨ρ108, e109⟩ : ∃ z, z = up ρ100 ((k + 4) + 1 + 42 * na1) 15 r104 := ⟨_, rfl⟩
        rw [← e109] at hP
        have hI : CI r (SA S ((k + 4) + 1 + 42 * na1) 0) ρ108 := by rw [e109]; exact CI_up hI (kind_lt (lay5n (n := na1) h (by omega)) (by decide)) (SP_plain (lay5n (n := na1) h (by omega)) rfl (by decide)) ⟨(fun _ => ⟨by decide, by decide, by decide⟩), (fun z2 => absurd (Eq.trans (Eq.symm (lay5n (n := na1) h (by omega))) z2) (by decide))⟩ (hSA hSS (lay5n h (show na1 < 2 by omega)) (by decide))
        exact b66_0 ls ρ108 _ _  (lv_sub hl [0] rfl) hP hS hI (by omega) (by omega)
    · skip
      have n110 := (nI_eq (a := j92) (b := 0) (by omega) (by omega)).mp (show (nI j92 = nI 0) from c94)
      exact ret_v B hr hlk hP hS dX5_chooseIn_41 (hI)

theorem lk_RX5_238 : LkV RX5 238 RX3 yX3_hasNext cX3_hasNext 1 (some .boolean) 0 := ⟨⟨mw_719, mw_618, mw_619, mw_55, mw_620⟩, by decide +kernel⟩
set_option maxHeartbeats 4000000 in
set_option maxRecDepth 100000 in
theorem d_X5_tunePacket (l : Launch) (E : hE) (ρ r : Nat → Nat → Int32) (S : Nat × Nat → Prop) (hSS : SK S) (k : Nat) (h : hk k = 5) (na1 : Nat) (lna1 : 0 ≤ na1) (una1 : na1 ≤ 1) (hI : CI r S ρ) : Met l yX5_tunePacket (.code yX5_tunePacket cX5_tunePacket 5 none :: gw_all) (rmk 4 160) (cPre E ρ [.ref (E.2.1 + k), .int (nI na1)]) (cV E (fun ρ1 => CI r S ρ1)) 0 0 (hA E) := by
  refine ent (own := RX5) (by decide) rfl (Nat.le_of_ble_eq_true rfl) ?_
  intro p e s m below meth c ls B hr hlk hl hP hS
  have hx := B.1.1
  have hb := B.1.2.1
  have hown := B.1.2.2.2.1
  have hts := B.1.2.2.2.2
  have hl : lv_has ls 5 [(0, .ref (E.2.1 + k)), (1, .int (nI na1))] := hl
  have b118_0 : ∀ (ls : Array Slot) (ρ : Nat → Nat → Int32) (H : Heap) (locs : List Loc) , lv_has ls 5 [(2, .ref (E.2.1 + ((k + 4) + 1 + 42 * na1)))] → WP E ρ H → va_S (hA E) s.heap H locs → CI r S ρ → 0 ≤ na1 → na1 ≤ 1 → W p l e (rmk 4 160) s m ([.ref (E.2.1 + k), .int (nI na1)] : List Value).toArray below meth c H locs 0 0 (MQ below (cV E (fun ρ1 => CI r S ρ1)) ([.ref (E.2.1 + k), .int (nI na1)] : List Value).toArray s 0 0 (hA E)) (F0 m 118 ls []) := by
    intro ls ρ H locs  hl hP hS hI tlna1 tuna1
    refine lv_aload_n hx hb dX5_tunePacket_118 rfl (lv_at hl 0 rfl) ?_
    refine lv_aload_n hx hb dX5_tunePacket_119 rfl (lv_at hl 0 rfl) ?_
    refine get2 B hP (lay5n (n := na1) h (by omega)) 17 (by decide) mw_325 rfl dX5_tunePacket_120 ?_
    refine put2 B hP hS (lay5n (n := na1) h (by omega)) 18 (by decide) mw_327 rfl rfl rfl (fs2_18 E ((k + 4) + 1 + 42 * na1) _ _) dX5_tunePacket_123 (fun H locs hP hS => ?_)
    obtain ⟨ρ66, e67⟩ : ∃ z, z = up ρ ((k + 4) + 1 + 42 * na1) 18 (ρ ((k + 4) + 1 + 42 * na1) 17) := ⟨_, rfl⟩
    rw [← e67] at hP
    have hI : CI r S ρ66 := by rw [e67]; exact CI_up hI (kind_lt (lay5n (n := na1) h (by omega)) (by decide)) (SP_plain (lay5n (n := na1) h (by omega)) rfl (by decide)) ⟨(fun _ => ⟨by decide, by decide, by decide⟩), (fun z2 => absurd (Eq.trans (Eq.symm (lay5n (n := na1) h (by omega))) z2) (by decide))⟩ hSS
    exact ret_v B hr hlk hP hS dX5_tunePacket_126 (hI)
  have b112_0 : ∀ (ls : Array Slot) (ρ : Nat → Nat → Int32) (H : Heap) (locs : List Loc) (x112_s1 : Int32) (x112_s2 : Int32), lv_has ls 5 [(2, .ref (E.2.1 + ((k + 4) + 1 + 42 * na1)))] → WP E ρ H → va_S (hA E) s.heap H locs → CI r S ρ → iR x112_s1 (-2147483648) (2147483647) → iR x112_s2 (-2147483648) (2147483647) → 0 ≤ na1 → na1 ≤ 1 → W p l e (rmk 4 160) s m ([.ref (E.2.1 + k), .int (nI na1)] : List Value).toArray below meth c H locs 0 0 (MQ below (cV E (fun ρ1 => CI r S ρ1)) ([.ref (E.2.1 + k), .int (nI na1)] : List Value).toArray s 0 0 (hA E)) (F0 m 112 ls [.int x112_s2, .int x112_s1, .ref (E.2.1 + ((k + 4) + 1 + 42 * na1))]) := by
    intro ls ρ H locs x112_s1 x112_s2 hl hP hS hI hx112_s1 hx112_s2 tlna1 tuna1
    refine call_i (cN (av := [.int x112_s1, .int x112_s2]) (rest := [.ref (E.2.1 + ((k + 4) + 1 + 42 * na1))]) B hP hS (d_X6_byMap l E ρ r S hSS x112_s1 x112_s2 hI) lk_RX5_101 rfl rfl hl.1 (Nat.le_of_ble_eq_true rfl) ⟨Nat.le_of_ble_eq_true rfl, Nat.le_of_ble_eq_true rfl⟩ ⟨Nat.le_of_ble_eq_true rfl, Nat.le_of_ble_eq_true rfl⟩ dX5_tunePacket_112) hS (fun r68 ρ69 H locs q70 hP hS => ?_)
    obtain ⟨rfl, hI⟩ := q70
    refine put2 B hP hS (lay5n (n := na1) h (by omega)) 17 (by decide) mw_325 rfl rfl rfl (fs2_17 E ((k + 4) + 1 + 42 * na1) _ _) dX5_tunePacket_115 (fun H locs hP hS => ?_)
    obtain ⟨ρ72, e73⟩ : ∃ z, z = up ρ ((k + 4) + 1 + 42 * na1) 17 r68 := ⟨_, rfl⟩
    rw [← e73] at hP
    have hI : CI r S ρ72 := by rw [e73]; exact CI_up hI (kind_lt (lay5n (n := na1) h (by omega)) (by decide)) (SP_plain (lay5n (n := na1) h (by omega)) rfl (by decide)) ⟨(fun _ => ⟨by decide, by decide, by decide⟩), (fun z2 => absurd (Eq.trans (Eq.symm (lay5n (n := na1) h (by omega))) z2) (by decide))⟩ hSS
    exact b118_0 ls ρ72 _ _  (lv_sub hl [0] rfl) hP hS hI (by omega) (by omega)
  have b73_0 : ∀ (ls : Array Slot) (ρ : Nat → Nat → Int32) (H : Heap) (locs : List Loc) , lv_has ls 5 [(0, .ref (E.2.1 + k)), (1, .int (nI na1)), (2, .ref (E.2.1 + ((k + 4) + 1 + 42 * na1)))] → WP E ρ H → va_S (hA E) s.heap H locs → CI r S ρ → 0 ≤ na1 → na1 ≤ 1 → W p l e (rmk 4 160) s m ([.ref (E.2.1 + k), .int (nI na1)] : List Value).toArray below meth c H locs 0 0 (MQ below (cV E (fun ρ1 => CI r S ρ1)) ([.ref (E.2.1 + k), .int (nI na1)] : List Value).toArray s 0 0 (hA E)) (F0 m 73 ls [.int 0]) := by
    intro ls ρ H locs  hl hP hS hI tlna1 tuna1
    refine lv_istore (lv' := [(4, .int 0), (0, .ref (E.2.1 + k)), (1, .int (nI na1)), (2, .ref (E.2.1 + ((k + 4) + 1 + 42 * na1)))]) hx hb dX5_tunePacket_73 hl (by decide) rfl (fun ls hl => ?_)
    refine lv_aload_n hx hb dX5_tunePacket_75 rfl (lv_at hl 3 rfl) ?_
    refine lv_aload_n hx hb dX5_tunePacket_76 rfl (lv_at hl 1 rfl) ?_
    refine lv_iload_n hx hb dX5_tunePacket_77 rfl (lv_at hl 2 rfl) ?_
    refine lv_aload_n hx hb dX5_tunePacket_78 rfl (lv_at hl 1 rfl) ?_
    refine get5 B hP h 5 (by decide) mw_381 rfl dX5_tunePacket_79 ?_
    refine call_i (cVt (k := k) (av := [.int (nI na1), .int (ρ k 5)]) (rest := [.ref (E.2.1 + ((k + 4) + 1 + 42 * na1))]) B hP hS (d_X5_hopIn l E ρ r S hSS k h na1 (by omega) (by omega) (ρ k 5) hI) lk_RX5_98 (hrecv (ci := 5) B hP (hk_lt (c := 5) h (by decide)) (hcc5 _ _ h) rfl) rfl rfl hl.1 (Nat.le_of_ble_eq_true rfl) ⟨Nat.le_of_ble_eq_true rfl, Nat.le_of_ble_eq_true rfl⟩ ⟨Nat.le_of_ble_eq_true rfl, Nat.le_of_ble_eq_true rfl⟩ dX5_tunePacket_82) hS (fun r74 ρ75 H locs q76 hP hS => ?_)
    obtain ⟨rfl, hI⟩ := q76
    refine put2 B hP hS (lay5n (n := na1) h (by omega)) 16 (by decide) mw_323 rfl rfl rfl (fs2_16 E ((k + 4) + 1 + 42 * na1) _ _) dX5_tunePacket_85 (fun H locs hP hS => ?_)
    obtain ⟨ρ78, e79⟩ : ∃ z, z = up ρ ((k + 4) + 1 + 42 * na1) 16 r74 := ⟨_, rfl⟩
    rw [← e79] at hP
    have hI : CI r S ρ78 := by rw [e79]; exact CI_up hI (kind_lt (lay5n (n := na1) h (by omega)) (by decide)) (SP_plain (lay5n (n := na1) h (by omega)) rfl (by decide)) ⟨(fun _ => ⟨by decide, by decide, by decide⟩), (fun z2 => absurd (Eq.trans (Eq.symm (lay5n (n := na1) h (by omega))) z2) (by decide))⟩ hSS
    refine lv_aload_n hx hb dX5_tunePacket_88 rfl (lv_at hl 3 rfl) ?_
    refine lv_aload_n hx hb dX5_tunePacket_89 rfl (lv_at hl 3 rfl) ?_
    refine get2 B hP (lay5n (n := na1) h (by omega)) 16 (by decide) mw_323 (v := .int r74) (show some (Value.int (ρ78 ((k + 4) + 1 + 42 * na1) 16)) = some (Value.int r74) from congrArg (fun z => some (Value.int z)) (by rw [e79]; exact up_get_at)) dX5_tunePacket_90 ?_
    refine lv_iload hx hb dX5_tunePacket_93 (lv_at hl 0 rfl) ?_
    refine lv_if_eq (tgt := 105) hx hb dX5_tunePacket_95 (by decide) (fun _ => ?_) (fun c80 => absurd rfl c80)
    refine lv_aload_n hx hb dX5_tunePacket_105 rfl (lv_at hl 3 rfl) ?_
    refine get2 B hP (lay5n (n := na1) h (by omega)) 0 (by decide) mw_283 rfl dX5_tunePacket_106 ?_
    refine get3 B hP (lay2 (lay5n (n := na1) h (by omega))).1 0 (by decide) mw_94 rfl dX5_tunePacket_109 ?_
    exact b112_0 ls ρ78 _ _ (r74 : Int32) ((ρ78 (((k + 4) + 1 + 42 * na1) + 1) 0) : Int32) (lv_sub hl [3] rfl) hP hS hI (iR_w (iR_any r74) (by decide) (by decide)) (iR_w (iR_any (ρ78 (((k + 4) + 1 + 42 * na1) + 1) 0)) (by decide) (by decide)) (by omega) (by omega)
  have b73_1 : ∀ (ls : Array Slot) (ρ : Nat → Nat → Int32) (H : Heap) (locs : List Loc) , lv_has ls 5 [(0, .ref (E.2.1 + k)), (1, .int (nI na1)), (2, .ref (E.2.1 + ((k + 4) + 1 + 42 * na1)))] → WP E ρ H → va_S (hA E) s.heap H locs → CI r S ρ → 0 ≤ na1 → na1 ≤ 1 → W p l e (rmk 4 160) s m ([.ref (E.2.1 + k), .int (nI na1)] : List Value).toArray below meth c H locs 0 0 (MQ below (cV E (fun ρ1 => CI r S ρ1)) ([.ref (E.2.1 + k), .int (nI na1)] : List Value).toArray s 0 0 (hA E)) (F0 m 73 ls [.int 1]) := by
    intro ls ρ H locs  hl hP hS hI tlna1 tuna1
    refine lv_istore (lv' := [(4, .int 1), (0, .ref (E.2.1 + k)), (1, .int (nI na1)), (2, .ref (E.2.1 + ((k + 4) + 1 + 42 * na1)))]) hx hb dX5_tunePacket_73 hl (by decide) rfl (fun ls hl => ?_)
    refine lv_aload_n hx hb dX5_tunePacket_75 rfl (lv_at hl 3 rfl) ?_
    refine lv_aload_n hx hb dX5_tunePacket_76 rfl (lv_at hl 1 rfl) ?_
    refine lv_iload_n hx hb dX5_tunePacket_77 rfl (lv_at hl 2 rfl) ?_
    refine lv_aload_n hx hb dX5_tunePacket_78 rfl (lv_at hl 1 rfl) ?_
    refine get5 B hP h 5 (by decide) mw_381 rfl dX5_tunePacket_79 ?_
    refine call_i (cVt (k := k) (av := [.int (nI na1), .int (ρ k 5)]) (rest := [.ref (E.2.1 + ((k + 4) + 1 + 42 * na1))]) B hP hS (d_X5_hopIn l E ρ r S hSS k h na1 (by omega) (by omega) (ρ k 5) hI) lk_RX5_98 (hrecv (ci := 5) B hP (hk_lt (c := 5) h (by decide)) (hcc5 _ _ h) rfl) rfl rfl hl.1 (Nat.le_of_ble_eq_true rfl) ⟨Nat.le_of_ble_eq_true rfl, Nat.le_of_ble_eq_true rfl⟩ ⟨Nat.le_of_ble_eq_true rfl, Nat.le_of_ble_eq_true rfl⟩ dX5_tunePacket_82) hS (fun r81 ρ82 H locs q83 hP hS => ?_)
    obtain ⟨rfl, hI⟩ := q83
    refine put2 B hP hS (lay5n (n := na1) h (by omega)) 16 (by decide) mw_323 rfl rfl rfl (fs2_16 E ((k + 4) + 1 + 42 * na1) _ _) dX5_tunePacket_85 (fun H locs hP hS => ?_)
    obtain ⟨ρ85, e86⟩ : ∃ z, z = up ρ ((k + 4) + 1 + 42 * na1) 16 r81 := ⟨_, rfl⟩
    rw [← e86] at hP
    have hI : CI r S ρ85 := by rw [e86]; exact CI_up hI (kind_lt (lay5n (n := na1) h (by omega)) (by decide)) (SP_plain (lay5n (n := na1) h (by omega)) rfl (by decide)) ⟨(fun _ => ⟨by decide, by decide, by decide⟩), (fun z2 => absurd (Eq.trans (Eq.symm (lay5n (n := na1) h (by omega))) z2) (by decide))⟩ hSS
    refine lv_aload_n hx hb dX5_tunePacket_88 rfl (lv_at hl 3 rfl) ?_
    refine lv_aload_n hx hb dX5_tunePacket_89 rfl (lv_at hl 3 rfl) ?_
    refine get2 B hP (lay5n (n := na1) h (by omega)) 16 (by decide) mw_323 (v := .int r81) (show some (Value.int (ρ85 ((k + 4) + 1 + 42 * na1) 16)) = some (Value.int r81) from congrArg (fun z => some (Value.int z)) (by rw [e86]; exact up_get_at)) dX5_tunePacket_90 ?_
    refine lv_iload hx hb dX5_tunePacket_93 (lv_at hl 0 rfl) ?_
    refine lv_if_eq (tgt := 105) hx hb dX5_tunePacket_95 (by decide) (fun c87 => absurd c87 (iR_ne (show iR 1 (1) (1) from ⟨by decide, by decide⟩) (show iR 0 (0) (0) from ⟨by decide, by decide⟩) (by decide))) (fun _ => ?_)
    refine lv_aload_n hx hb dX5_tunePacket_98 rfl (lv_at hl 3 rfl) ?_
    refine get2 B hP (lay5n (n := na1) h (by omega)) 7 (by decide) mw_301 rfl dX5_tunePacket_99 ?_
    refine lv_goto (tgt := 112) hx hb dX5_tunePacket_102 (by decide) ?_
    exact b112_0 ls ρ85 _ _ (r81 : Int32) ((ρ85 ((k + 4) + 1 + 42 * na1) 7) : Int32) (lv_sub hl [3] rfl) hP hS hI (iR_w (iR_any r81) (by decide) (by decide)) (iR_w (iR_any (ρ85 ((k + 4) + 1 + 42 * na1) 7)) (by decide) (by decide)) (by omega) (by omega)
  have b72_0 : ∀ (ls : Array Slot) (ρ : Nat → Nat → Int32) (H : Heap) (locs : List Loc) , lv_has ls 5 [(0, .ref (E.2.1 + k)), (1, .int (nI na1)), (2, .ref (E.2.1 + ((k + 4) + 1 + 42 * na1)))] → WP E ρ H → va_S (hA E) s.heap H locs → CI r S ρ → 0 ≤ na1 → na1 ≤ 1 → W p l e (rmk 4 160) s m ([.ref (E.2.1 + k), .int (nI na1)] : List Value).toArray below meth c H locs 0 0 (MQ below (cV E (fun ρ1 => CI r S ρ1)) ([.ref (E.2.1 + k), .int (nI na1)] : List Value).toArray s 0 0 (hA E)) (F0 m 72 ls []) := by
    intro ls ρ H locs  hl hP hS hI tlna1 tuna1
    refine lv_iconst (v := 0) hx hb dX5_tunePacket_72 (by decide) ?_
    exact b73_0 ls ρ _ _  (lv_sub hl [0, 1, 2] rfl) hP hS hI (by omega) (by omega)
  have b37_0 : ∀ (ls : Array Slot) (ρ : Nat → Nat → Int32) (H : Heap) (locs : List Loc) , lv_has ls 5 [(0, .ref (E.2.1 + k)), (1, .int (nI na1)), (2, .ref (E.2.1 + ((k + 4) + 1 + 42 * na1))), (3, .null)] → WP E ρ H → va_S (hA E) s.heap H locs → CI r S ρ → 0 ≤ na1 → na1 ≤ 1 → W p l e (rmk 4 160) s m ([.ref (E.2.1 + k), .int (nI na1)] : List Value).toArray below meth c H locs 0 0 (MQ below (cV E (fun ρ1 => CI r S ρ1)) ([.ref (E.2.1 + k), .int (nI na1)] : List Value).toArray s 0 0 (hA E)) (F0 m 37 ls []) := by
    intro ls ρ H locs  hl hP hS hI tlna1 tuna1
    refine lv_aload_nN hx hb dX5_tunePacket_37 rfl (lv_at hl 3 rfl) ?_
    refine lv_ifnullN (tgt := 72) hx hb dX5_tunePacket_38 (by decide) ?_
    exact b72_0 ls ρ _ _  (lv_sub hl [0, 1, 2] rfl) hP hS hI (by omega) (by omega)
  have b37_1 : ∀ (ls : Array Slot) (ρ : Nat → Nat → Int32) (H : Heap) (locs : List Loc) (k37_3 : Nat), lv_has ls 5 [(0, .ref (E.2.1 + k)), (1, .int (nI na1)), (2, .ref (E.2.1 + ((k + 4) + 1 + 42 * na1))), (3, .ref (E.2.1 + k37_3))] → WP E ρ H → va_S (hA E) s.heap H locs → CI r S ρ → hk k37_3 = 1 → 0 ≤ na1 → na1 ≤ 1 → W p l e (rmk 4 160) s m ([.ref (E.2.1 + k), .int (nI na1)] : List Value).toArray below meth c H locs 0 0 (MQ below (cV E (fun ρ1 => CI r S ρ1)) ([.ref (E.2.1 + k), .int (nI na1)] : List Value).toArray s 0 0 (hA E)) (F0 m 37 ls []) := by
    intro ls ρ H locs k37_3 hl hP hS hI hk37_3 tlna1 tuna1
    refine lv_aload_n hx hb dX5_tunePacket_37 rfl (lv_at hl 3 rfl) ?_
    refine lv_ifnull hx hb dX5_tunePacket_38 ?_
    refine lv_aload_n hx hb dX5_tunePacket_41 rfl (lv_at hl 3 rfl) ?_
    refine get1 B hP hk37_3 5 (by decide) mw_214 rfl dX5_tunePacket_42 ?_
    have i88 : iR (ρ k37_3 5) 0 1 := CI_get hI (kind_lt hk37_3 (by decide)) hk37_3 rfl
    obtain ⟨j89, lj89, uj89, ej89⟩ := iR_nat (a := 0) (b := 1) i88
    refine lv_topi (fun z90 ez90 => ?_)
    obtain rfl : z90 = nI j89 := ez90.trans ej89
    refine lv_if_ne (tgt := 72) hx hb dX5_tunePacket_45 (by decide) (fun c91 => ?_) (fun c91 => ?_)
    · skip
      have n92 := mt (nI_eq (a := j89) (b := 0) (by omega) (by omega)).mpr (show ¬ (nI j89 = nI 0) from c91)
      exact b72_0 ls ρ _ _  (lv_sub hl [0, 1, 2] rfl) hP hS hI (by omega) (by omega)
    · skip
      have n93 := (nI_eq (a := j89) (b := 0) (by omega) (by omega)).mp (show (nI j89 = nI 0) from c91)
      refine lv_aload_n hx hb dX5_tunePacket_48 rfl (lv_at hl 2 rfl) ?_
      refine get2 B hP (lay5n (n := na1) h (by omega)) 0 (by decide) mw_283 rfl dX5_tunePacket_49 ?_
      refine call_i (cVt (k := (((k + 4) + 1 + 42 * na1) + 1)) (av := []) (rest := []) B hP hS (d_X3_hasNext l E ρ r S hSS (((k + 4) + 1 + 42 * na1) + 1) (lay2 (lay5n (n := na1) h (by omega))).1 hI) lk_RX5_238 (hrecv (ci := 3) B hP (hk_lt (c := 3) (lay2 (lay5n (n := na1) h (by omega))).1 (by decide)) (hcc3 _ _ (lay2 (lay5n (n := na1) h (by omega))).1) rfl) rfl rfl hl.1 (Nat.le_of_ble_eq_true rfl) ⟨Nat.le_of_ble_eq_true rfl, Nat.le_of_ble_eq_true rfl⟩ ⟨Nat.le_of_ble_eq_true rfl, Nat.le_of_ble_eq_true rfl⟩ dX5_tunePacket_52) hS (fun r94 ρ95 H locs q96 hP hS => ?_)
      obtain ⟨rfl, hI, i97⟩ := q96
      obtain ⟨j98, lj98, uj98, ej98⟩ := iR_nat (a := 0) (b := 1) i97
      refine lv_topi (fun z99 ez99 => ?_)
      obtain rfl : z99 = nI j98 := ez99.trans ej98
      refine lv_if_ne (tgt := 72) hx hb dX5_tunePacket_55 (by decide) (fun c100 => ?_) (fun c100 => ?_)
      · skip
        have n101 := mt (nI_eq (a := j98) (b := 0) (by omega) (by omega)).mpr (show ¬ (nI j98 = nI 0) from c100)
        exact b72_0 ls ρ _ _  (lv_sub hl [0, 1, 2] rfl) hP hS hI (by omega) (by omega)
      · skip
        have n102 := (nI_eq (a := j98) (b := 0) (by omega) (by omega)).mp (show (nI j98 = nI 0) from c100)
        refine lv_aload_n hx hb dX5_tunePacket_58 rfl (lv_at hl 0 rfl) ?_
        refine get5 B hP h 5 (by decide) mw_381 rfl dX5_tunePacket_59 ?_
        refine lv_iconst (v := 4) hx hb dX5_tunePacket_62 (by decide) ?_
        refine lv_irem hx hb dX5_tunePacket_63 (by decide) ?_
        refine lv_iconst (v := 2) hx hb dX5_tunePacket_64 (by decide) ?_
        refine lv_icmp_ne (tgt := 72) hx hb dX5_tunePacket_65 (by decide) (fun c103 => ?_) (fun c103 => ?_)
        · skip
          exact b72_0 ls ρ _ _  (lv_sub hl [0, 1, 2] rfl) hP hS hI (by omega) (by omega)
        · skip
          have i104 : iR ((ρ k 5) - (ρ k 5) / 4 * 4) (2) (2) := (by rw [c103]; exact ⟨by decide, by decide⟩)
          refine lv_iconst (v := 1) hx hb dX5_tunePacket_68 (by decide) ?_
          refine lv_goto (tgt := 73) hx hb dX5_tunePacket_69 (by decide) ?_
          exact b73_1 ls ρ _ _  (lv_sub hl [0, 1, 2] rfl) hP hS hI (by omega) (by omega)
  refine lv_aload_n hx hb dX5_tunePacket_0 rfl (lv_at hl 0 rfl) ?_
  refine get5 B hP h 3 (by decide) mw_377 rfl dX5_tunePacket_1 ?_
  refine lv_iload_n hx hb dX5_tunePacket_4 rfl (lv_at hl 1 rfl) ?_
  refine aldNn (j := na1) B hP (lay5 h).2.2.2.2.2.2.1 (lay5 h).2.2.2.2.2.2.2.1 rfl (by omega) dX5_tunePacket_5 ?_
  refine lv_astore_n (lv' := [(2, .ref (E.2.1 + ((k + 4) + 1 + 42 * na1))), (0, .ref (E.2.1 + k)), (1, .int (nI na1))]) hx hb dX5_tunePacket_6 rfl hl (by decide) rfl (fun ls hl => ?_)
  refine lv_aload_n hx hb dX5_tunePacket_7 rfl (lv_at hl 0 rfl) ?_
  refine lv_aload_n hx hb dX5_tunePacket_8 rfl (lv_at hl 0 rfl) ?_
  refine get2 B hP (lay5n (n := na1) h (by omega)) 15 (by decide) mw_320 rfl dX5_tunePacket_9 ?_
  refine call_q (cVt (k := ((k + 4) + 1 + 42 * na1)) (av := [.int (ρ ((k + 4) + 1 + 42 * na1) 15)]) (rest := []) B hP hS (d_X2_linkAt l E ρ r S hSS ((k + 4) + 1 + 42 * na1) (lay5n (n := na1) h (by omega)) (ρ ((k + 4) + 1 + 42 * na1) 15) hI) lk_RX5_64 (hrecv (ci := 2) B hP (hk_lt (c := 2) (lay5n (n := na1) h (by omega)) (by decide)) (hcc2 _ _ (lay5n (n := na1) h (by omega))) rfl) rfl rfl hl.1 (Nat.le_of_ble_eq_true rfl) ⟨Nat.le_of_ble_eq_true rfl, Nat.le_of_ble_eq_true rfl⟩ ⟨Nat.le_of_ble_eq_true rfl, Nat.le_of_ble_eq_true rfl⟩ dX5_tunePacket_12) hS (fun r105 ρ106 H locs q107 hP hS => ?_)
  obtain ⟨rfl, hI, q107⟩ := q107
  rcases q107 with rfl | ⟨j108, k109, rfl, hk109, ej108, uj108, gj108⟩
  · skip
    refine W.eq (g2 := F0 m 15 ls [.null]) rfl ?_
    refine lv_astore_nN (lv' := [(3, .null), (2, .ref (E.2.1 + ((k + 4) + 1 + 42 * na1))), (0, .ref (E.2.1 + k)), (1, .int (nI na1))]) hx hb dX5_tunePacket_15 rfl hl (by decide) rfl (fun ls hl => ?_)
    refine lv_aload_n hx hb dX5_tunePacket_16 rfl (lv_at hl 1 rfl) ?_
    refine lv_iconst (v := 0) hx hb dX5_tunePacket_17 (by decide) ?_
    refine put2 B hP hS (lay5n (n := na1) h (by omega)) 19 (by decide) mw_329 rfl rfl rfl (fs2_19 E ((k + 4) + 1 + 42 * na1) _ _) dX5_tunePacket_18 (fun H locs hP hS => ?_)
    obtain ⟨ρ110, e111⟩ : ∃ z, z = up ρ ((k + 4) + 1 + 42 * na1) 19 0 := ⟨_, rfl⟩
    rw [← e111] at hP
    have hI : CI r S ρ110 := by rw [e111]; exact CI_up hI (kind_lt (lay5n (n := na1) h (by omega)) (by decide)) (SP_rng (lay5n (n := na1) h (by omega)) rfl (by decide) (iR_w (a := 0) (b := 0) (show iR 0 (0) (0) from ⟨by decide, by decide⟩) (by decide) (by decide))) ⟨(fun _ => ⟨by decide, by decide, by decide⟩), (fun z2 => absurd (Eq.trans (Eq.symm (lay5n (n := na1) h (by omega))) z2) (by decide))⟩ hSS
    refine lv_aload_n hx hb dX5_tunePacket_21 rfl (lv_at hl 1 rfl) ?_
    refine lv_iconst (v := (-1)) hx hb dX5_tunePacket_22 (by decide) ?_
    refine put2 B hP hS (lay5n (n := na1) h (by omega)) 17 (by decide) mw_325 rfl rfl rfl (fs2_17 E ((k + 4) + 1 + 42 * na1) _ _) dX5_tunePacket_23 (fun H locs hP hS => ?_)
    obtain ⟨ρ112, e113⟩ : ∃ z, z = up ρ110 ((k + 4) + 1 + 42 * na1) 17 (-1) := ⟨_, rfl⟩
    rw [← e113] at hP
    have hI : CI r S ρ112 := by rw [e113]; exact CI_up hI (kind_lt (lay5n (n := na1) h (by omega)) (by decide)) (SP_plain (lay5n (n := na1) h (by omega)) rfl (by decide)) ⟨(fun _ => ⟨by decide, by decide, by decide⟩), (fun z2 => absurd (Eq.trans (Eq.symm (lay5n (n := na1) h (by omega))) z2) (by decide))⟩ hSS
    refine lv_aload_n hx hb dX5_tunePacket_26 rfl (lv_at hl 1 rfl) ?_
    refine get2 B hP (lay5n (n := na1) h (by omega)) 14 (by decide) mw_317 rfl dX5_tunePacket_27 ?_
    have i114 : iR (ρ112 ((k + 4) + 1 + 42 * na1) 14) 0 1 := CI_get hI (kind_lt (lay5n (n := na1) h (by omega)) (by decide)) (lay5n (n := na1) h (by omega)) rfl
    obtain ⟨j115, lj115, uj115, ej115⟩ := iR_nat (a := 0) (b := 1) i114
    refine lv_topi (fun z116 ez116 => ?_)
    obtain rfl : z116 = nI j115 := ez116.trans ej115
    refine lv_if_ne (tgt := 37) hx hb dX5_tunePacket_30 (by decide) (fun c117 => ?_) (fun c117 => ?_)
    · skip
      have n118 := mt (nI_eq (a := j115) (b := 0) (by omega) (by omega)).mpr (show ¬ (nI j115 = nI 0) from c117)
      exact b37_0 ls ρ112 _ _  (lv_sub hl [2, 3, 1, 0] rfl) hP hS hI (by omega) (by omega)
    · skip
      have n119 := (nI_eq (a := j115) (b := 0) (by omega) (by omega)).mp (show (nI j115 = nI 0) from c117)
      refine lv_aload_nN hx hb dX5_tunePacket_33 rfl (lv_at hl 0 rfl) ?_
      refine lv_ifnullN (tgt := 118) hx hb dX5_tunePacket_34 (by decide) ?_
      exact b118_0 ls ρ112 _ _  (lv_sub hl [1] rfl) hP hS hI (by omega) (by omega)
  · skip
    refine W.eq (g2 := F0 m 15 ls [.ref (E.2.1 + k109)]) rfl ?_
    have i120 : iR (ρ ((k + 4) + 1 + 42 * na1) 8) 1 4 := iR_w gj108 (by omega) (by omega)
    refine lv_astore_n (lv' := [(3, .ref (E.2.1 + k109)), (2, .ref (E.2.1 + ((k + 4) + 1 + 42 * na1))), (0, .ref (E.2.1 + k)), (1, .int (nI na1))]) hx hb dX5_tunePacket_15 rfl hl (by decide) rfl (fun ls hl => ?_)
    refine lv_aload_n hx hb dX5_tunePacket_16 rfl (lv_at hl 1 rfl) ?_
    refine lv_iconst (v := 0) hx hb dX5_tunePacket_17 (by decide) ?_
    refine put2 B hP hS (lay5n (n := na1) h (by omega)) 19 (by decide) mw_329 rfl rfl rfl (fs2_19 E ((k + 4) + 1 + 42 * na1) _ _) dX5_tunePacket_18 (fun H locs hP hS => ?_)
    obtain ⟨ρ121, e122⟩ : ∃ z, z = up ρ ((k + 4) + 1 + 42 * na1) 19 0 := ⟨_, rfl⟩
    rw [← e122] at hP
    have hI : CI r S ρ121 := by rw [e122]; exact CI_up hI (kind_lt (lay5n (n := na1) h (by omega)) (by decide)) (SP_rng (lay5n (n := na1) h (by omega)) rfl (by decide) (iR_w (a := 0) (b := 0) (show iR 0 (0) (0) from ⟨by decide, by decide⟩) (by decide) (by decide))) ⟨(fun _ => ⟨by decide, by decide, by decide⟩), (fun z2 => absurd (Eq.trans (Eq.symm (lay5n (n := na1) h (by omega))) z2) (by decide))⟩ hSS
    refine lv_aload_n hx hb dX5_tunePacket_21 rfl (lv_at hl 1 rfl) ?_
    refine lv_iconst (v := (-1)) hx hb dX5_tunePacket_22 (by decide) ?_
    refine put2 B hP hS (lay5n (n := na1) h (by omega)) 17 (by decide) mw_325 rfl rfl rfl (fs2_17 E ((k + 4) + 1 + 42 * na1) _ _) dX5_tunePacket_23 (fun H locs hP hS => ?_)
    obtain ⟨ρ123, e124⟩ : ∃ z, z = up ρ121 ((k + 4) + 1 + 42 * na1) 17 (-1) := ⟨_, rfl⟩
    rw [← e124] at hP
    have hI : CI r S ρ123 := by rw [e124]; exact CI_up hI (kind_lt (lay5n (n := na1) h (by omega)) (by decide)) (SP_plain (lay5n (n := na1) h (by omega)) rfl (by decide)) ⟨(fun _ => ⟨by decide, by decide, by decide⟩), (fun z2 => absurd (Eq.trans (Eq.symm (lay5n (n := na1) h (by omega))) z2) (by decide))⟩ hSS
    refine lv_aload_n hx hb dX5_tunePacket_26 rfl (lv_at hl 1 rfl) ?_
    refine get2 B hP (lay5n (n := na1) h (by omega)) 14 (by decide) mw_317 rfl dX5_tunePacket_27 ?_
    have i125 : iR (ρ123 ((k + 4) + 1 + 42 * na1) 14) 0 1 := CI_get hI (kind_lt (lay5n (n := na1) h (by omega)) (by decide)) (lay5n (n := na1) h (by omega)) rfl
    obtain ⟨j126, lj126, uj126, ej126⟩ := iR_nat (a := 0) (b := 1) i125
    refine lv_topi (fun z127 ez127 => ?_)
    obtain rfl : z127 = nI j126 := ez127.trans ej126
    refine lv_if_ne (tgt := 37) hx hb dX5_tunePacket_30 (by decide) (fun c128 => ?_) (fun c128 => ?_)
    · skip
      have n129 := mt (nI_eq (a := j126) (b := 0) (by omega) (by omega)).mpr (show ¬ (nI j126 = nI 0) from c128)
      exact b37_1 ls ρ123 _ _ k109 (lv_sub hl [2, 3, 1, 0] rfl) hP hS hI hk109 (by omega) (by omega)
    · skip
      have n130 := (nI_eq (a := j126) (b := 0) (by omega) (by omega)).mp (show (nI j126 = nI 0) from c128)
      refine lv_aload_n hx hb dX5_tunePacket_33 rfl (lv_at hl 0 rfl) ?_
      refine lv_ifnull hx hb dX5_tunePacket_34 ?_
      exact b37_1 ls ρ123 _ _ k109 (lv_sub hl [2, 3, 1, 0] rfl) hP hS hI hk109 (by omega) (by omega)

theorem lk_RX5_248 : LkV RX5 248 RX5 yX5_lossOnAir cX5_lossOnAir 3 (some .int) 1 := ⟨⟨mw_743, mw_744, mw_745, mw_53, mw_746⟩, by decide +kernel⟩
theorem lk_RX5_251 : LkV RX5 251 RX2 yX2_tallySent cX2_tallySent 1 none 0 := ⟨⟨mw_756, mw_757, mw_758, mw_54, mw_759⟩, by decide +kernel⟩
set_option maxHeartbeats 4000000 in
set_option maxRecDepth 100000 in
theorem d_X5_sendPacket (l : Launch) (E : hE) (ρ r : Nat → Nat → Int32) (S : Nat × Nat → Prop) (hSS : SK S) (k : Nat) (h : hk k = 5) (na1 : Nat) (lna1 : 0 ≤ na1) (una1 : na1 ≤ 1) (hI : CI r S ρ) : Met l yX5_sendPacket (.code yX5_sendPacket cX5_sendPacket 5 none :: gw_all) (rmk 3 120) (cPre E ρ [.ref (E.2.1 + k), .int (nI na1)]) (cV E (fun ρ1 => CI r S ρ1)) 0 0 (hA E) := by
  refine ent (own := RX5) (by decide) rfl (Nat.le_of_ble_eq_true rfl) ?_
  intro p e s m below meth c ls B hr hlk hl hP hS
  have hx := B.1.1
  have hb := B.1.2.1
  have hown := B.1.2.2.2.1
  have hts := B.1.2.2.2.2
  have hl : lv_has ls 5 [(0, .ref (E.2.1 + k)), (1, .int (nI na1))] := hl
  have b122_0 : ∀ (ls : Array Slot) (ρ : Nat → Nat → Int32) (H : Heap) (locs : List Loc) (j122_3 : Nat), lv_has ls 5 [(3, .int (nI j122_3)), (4, .null)] → WP E ρ H → va_S (hA E) s.heap H locs → CI r S ρ → 0 ≤ j122_3 → j122_3 ≤ 2 → 0 ≤ na1 → na1 ≤ 1 → W p l e (rmk 3 120) s m ([.ref (E.2.1 + k), .int (nI na1)] : List Value).toArray below meth c H locs 0 0 (MQ below (cV E (fun ρ1 => CI r S ρ1)) ([.ref (E.2.1 + k), .int (nI na1)] : List Value).toArray s 0 0 (hA E)) (F0 m 122 ls []) := by
    intro ls ρ H locs j122_3 hl hP hS hI lj122_3 uj122_3 tlna1 tuna1
    refine lv_iload_n hx hb dX5_sendPacket_122 rfl (lv_at hl 0 rfl) ?_
    refine lv_if_eq (tgt := 140) hx hb dX5_sendPacket_123 (by decide) (fun c74 => ?_) (fun c74 => ?_)
    · skip
      have n75 := (nI_eq (a := j122_3) (b := 0) (by omega) (by omega)).mp (show (nI j122_3 = nI 0) from c74)
      exact ret_v B hr hlk hP hS dX5_sendPacket_140 (hI)
    · skip
      have n76 := mt (nI_eq (a := j122_3) (b := 0) (by omega) (by omega)).mpr (show ¬ (nI j122_3 = nI 0) from c74)
      refine lv_aloadN hx hb dX5_sendPacket_126 (lv_at hl 1 rfl) ?_
      refine lv_ifnullN (tgt := 140) hx hb dX5_sendPacket_128 (by decide) ?_
      exact ret_v B hr hlk hP hS dX5_sendPacket_140 (hI)
  have b122_1 : ∀ (ls : Array Slot) (ρ : Nat → Nat → Int32) (H : Heap) (locs : List Loc) (j122_3 : Nat) (k122_4 : Nat), lv_has ls 5 [(3, .int (nI j122_3)), (4, .ref (E.2.1 + k122_4))] → WP E ρ H → va_S (hA E) s.heap H locs → CI r S ρ → 0 ≤ j122_3 → j122_3 ≤ 3 → hk k122_4 = 1 → 0 ≤ na1 → na1 ≤ 1 → W p l e (rmk 3 120) s m ([.ref (E.2.1 + k), .int (nI na1)] : List Value).toArray below meth c H locs 0 0 (MQ below (cV E (fun ρ1 => CI r S ρ1)) ([.ref (E.2.1 + k), .int (nI na1)] : List Value).toArray s 0 0 (hA E)) (F0 m 122 ls []) := by
    intro ls ρ H locs j122_3 k122_4 hl hP hS hI lj122_3 uj122_3 hk122_4 tlna1 tuna1
    refine lv_iload_n hx hb dX5_sendPacket_122 rfl (lv_at hl 0 rfl) ?_
    refine lv_if_eq (tgt := 140) hx hb dX5_sendPacket_123 (by decide) (fun c77 => ?_) (fun c77 => ?_)
    · skip
      have n78 := (nI_eq (a := j122_3) (b := 0) (by omega) (by omega)).mp (show (nI j122_3 = nI 0) from c77)
      exact ret_v B hr hlk hP hS dX5_sendPacket_140 (hI)
    · skip
      have n79 := mt (nI_eq (a := j122_3) (b := 0) (by omega) (by omega)).mpr (show ¬ (nI j122_3 = nI 0) from c77)
      refine lv_aload hx hb dX5_sendPacket_126 (lv_at hl 1 rfl) ?_
      refine lv_ifnull hx hb dX5_sendPacket_128 ?_
      refine lv_aload hx hb dX5_sendPacket_131 (lv_at hl 1 rfl) ?_
      refine lv_bipush (v := 10) hx hb dX5_sendPacket_133 (by decide) ?_
      refine lv_iload_n hx hb dX5_sendPacket_135 rfl (lv_at hl 0 rfl) ?_
      refine lv_iadd hx hb dX5_sendPacket_136 ?_
      refine lv_topi (fun z80 ez80 => ?_)
      obtain rfl : z80 = (nI (10 + j122_3)) := ez80.trans (by rw [show 10 = nI 10 from rfl, show (nI j122_3) = nI j122_3 from rfl, nI_add] <;> exact congrArg nI (by omega))
      refine put1 B hP hS hk122_4 15 (by decide) mw_237 rfl rfl rfl (fs1_15 E k122_4 _ _) dX5_sendPacket_137 (fun H locs hP hS => ?_)
      obtain ⟨ρ81, e82⟩ : ∃ z, z = up ρ k122_4 15 (nI (10 + j122_3)) := ⟨_, rfl⟩
      rw [← e82] at hP
      have hI : CI r S ρ81 := by rw [e82]; exact CI_up hI (kind_lt hk122_4 (by decide)) (SP_plain hk122_4 rfl (by decide)) ⟨(fun z2 => absurd (Eq.trans (Eq.symm hk122_4) z2) (by decide)), (fun z2 => absurd (Eq.trans (Eq.symm hk122_4) z2) (by decide))⟩ hSS
      exact ret_v B hr hlk hP hS dX5_sendPacket_140 (hI)
  have b103_0 : ∀ (ls : Array Slot) (ρ : Nat → Nat → Int32) (H : Heap) (locs : List Loc) (j103_3 : Nat), lv_has ls 5 [(0, .ref (E.2.1 + k)), (3, .int (nI j103_3)), (4, .null)] → WP E ρ H → va_S (hA E) s.heap H locs → CI r S ρ → 1 ≤ j103_3 → j103_3 ≤ 2 → 0 ≤ na1 → na1 ≤ 1 → W p l e (rmk 3 120) s m ([.ref (E.2.1 + k), .int (nI na1)] : List Value).toArray below meth c H locs 0 0 (MQ below (cV E (fun ρ1 => CI r S ρ1)) ([.ref (E.2.1 + k), .int (nI na1)] : List Value).toArray s 0 0 (hA E)) (F0 m 103 ls [.int 0, .ref (E.2.1 + ((k + 4) + 1 + 42 * na1))]) := by
    intro ls ρ H locs j103_3 hl hP hS hI lj103_3 uj103_3 tlna1 tuna1
    refine put2 B hP hS (lay5n (n := na1) h (by omega)) 19 (by decide) mw_329 rfl rfl rfl (fs2_19 E ((k + 4) + 1 + 42 * na1) _ _) dX5_sendPacket_103 (fun H locs hP hS => ?_)
    obtain ⟨ρ83, e84⟩ : ∃ z, z = up ρ ((k + 4) + 1 + 42 * na1) 19 0 := ⟨_, rfl⟩
    rw [← e84] at hP
    have hI : CI r S ρ83 := by rw [e84]; exact CI_up hI (kind_lt (lay5n (n := na1) h (by omega)) (by decide)) (SP_rng (lay5n (n := na1) h (by omega)) rfl (by decide) (iR_w (a := 0) (b := 0) (show iR 0 (0) (0) from ⟨by decide, by decide⟩) (by decide) (by decide))) ⟨(fun _ => ⟨by decide, by decide, by decide⟩), (fun z2 => absurd (Eq.trans (Eq.symm (lay5n (n := na1) h (by omega))) z2) (by decide))⟩ hSS
    refine lv_iload_n hx hb dX5_sendPacket_106 rfl (lv_at hl 1 rfl) ?_
    refine lv_if_eq (tgt := 122) hx hb dX5_sendPacket_107 (by decide) (fun c85 => absurd c85 (iR_ne (nI_iR (j := j103_3) (a := 1) (b := 2) (by omega) (by omega) (by omega)) (show iR 0 (0) (0) from ⟨by decide, by decide⟩) (by decide))) (fun _ => ?_)
    refine lv_aload_n hx hb dX5_sendPacket_110 rfl (lv_at hl 0 rfl) ?_
    refine get5 B hP h 2 (by decide) mw_375 rfl dX5_sendPacket_111 ?_
    refine lv_iconst (v := 1) hx hb dX5_sendPacket_114 (by decide) ?_
    refine lv_iload_n hx hb dX5_sendPacket_115 rfl (lv_at hl 1 rfl) ?_
    refine lv_iadd hx hb dX5_sendPacket_116 ?_
    refine lv_topi (fun z86 ez86 => ?_)
    obtain rfl : z86 = (nI (1 + j103_3)) := ez86.trans (by rw [show 1 = nI 1 from rfl, show (nI j103_3) = nI j103_3 from rfl, nI_add] <;> exact congrArg nI (by omega))
    refine lv_dup2_11 hx hb dX5_sendPacket_117 rfl rfl ?_
    refine aldn (n := 9) (j := (1 + j103_3)) B hP (lay5 h).2.2.2.2.1 (lay5 h).2.2.2.2.2.1 rfl (by omega) (by decide) dX5_sendPacket_118 ?_
    refine lv_iconst (v := 1) hx hb dX5_sendPacket_119 (by decide) ?_
    refine lv_iadd hx hb dX5_sendPacket_120 ?_
    refine astn (n := 9) (j := (1 + j103_3)) B hP hS (lay5 h).2.2.2.2.1 (lay5 h).2.2.2.2.2.1 rfl (by omega) (by decide) dX5_sendPacket_121 (fun H locs hP hS => ?_)
    obtain ⟨ρ87, e88⟩ : ∃ z, z = up ρ83 (k + 3) (1 + j103_3) ((ρ83 (k + 3) (1 + j103_3)) + 1) := ⟨_, rfl⟩
    rw [← e88] at hP
    have hI : CI r S ρ87 := by rw [e88]; exact CI_up hI (by have := lay5l h; omega) (SP_plain (lay5 h).2.2.2.2.1 rfl (by decide)) ⟨(fun z2 => absurd (Eq.trans (Eq.symm (lay5 h).2.2.2.2.1) z2) (by decide)), (fun z2 => absurd (Eq.trans (Eq.symm (lay5 h).2.2.2.2.1) z2) (by decide))⟩ hSS
    exact b122_0 ls ρ87 _ _ j103_3 (lv_sub hl [1, 2] rfl) hP hS hI (by omega) (by omega) (by omega) (by omega)
  have b103_1 : ∀ (ls : Array Slot) (ρ : Nat → Nat → Int32) (H : Heap) (locs : List Loc) (j103_3 : Nat), lv_has ls 5 [(0, .ref (E.2.1 + k)), (3, .int (nI j103_3)), (4, .null)] → WP E ρ H → va_S (hA E) s.heap H locs → CI r S ρ → 0 ≤ j103_3 → j103_3 ≤ 0 → 0 ≤ na1 → na1 ≤ 1 → W p l e (rmk 3 120) s m ([.ref (E.2.1 + k), .int (nI na1)] : List Value).toArray below meth c H locs 0 0 (MQ below (cV E (fun ρ1 => CI r S ρ1)) ([.ref (E.2.1 + k), .int (nI na1)] : List Value).toArray s 0 0 (hA E)) (F0 m 103 ls [.int 1, .ref (E.2.1 + ((k + 4) + 1 + 42 * na1))]) := by
    intro ls ρ H locs j103_3 hl hP hS hI lj103_3 uj103_3 tlna1 tuna1
    refine put2 B hP hS (lay5n (n := na1) h (by omega)) 19 (by decide) mw_329 rfl rfl rfl (fs2_19 E ((k + 4) + 1 + 42 * na1) _ _) dX5_sendPacket_103 (fun H locs hP hS => ?_)
    obtain ⟨ρ89, e90⟩ : ∃ z, z = up ρ ((k + 4) + 1 + 42 * na1) 19 1 := ⟨_, rfl⟩
    rw [← e90] at hP
    have hI : CI r S ρ89 := by rw [e90]; exact CI_up hI (kind_lt (lay5n (n := na1) h (by omega)) (by decide)) (SP_rng (lay5n (n := na1) h (by omega)) rfl (by decide) (iR_w (a := 1) (b := 1) (show iR 1 (1) (1) from ⟨by decide, by decide⟩) (by decide) (by decide))) ⟨(fun _ => ⟨by decide, by decide, by decide⟩), (fun z2 => absurd (Eq.trans (Eq.symm (lay5n (n := na1) h (by omega))) z2) (by decide))⟩ hSS
    refine lv_iload_n hx hb dX5_sendPacket_106 rfl (lv_at hl 1 rfl) ?_
    refine lv_if_eq (tgt := 122) hx hb dX5_sendPacket_107 (by decide) (fun c91 => ?_) (fun c91 => ?_)
    · skip
      have n92 := (nI_eq (a := j103_3) (b := 0) (by omega) (by omega)).mp (show (nI j103_3 = nI 0) from c91)
      exact b122_0 ls ρ89 _ _ j103_3 (lv_sub hl [1, 2] rfl) hP hS hI (by omega) (by omega) (by omega) (by omega)
    · skip
      have n93 := mt (nI_eq (a := j103_3) (b := 0) (by omega) (by omega)).mpr (show ¬ (nI j103_3 = nI 0) from c91)
      refine lv_aload_n hx hb dX5_sendPacket_110 rfl (lv_at hl 0 rfl) ?_
      refine get5 B hP h 2 (by decide) mw_375 rfl dX5_sendPacket_111 ?_
      refine lv_iconst (v := 1) hx hb dX5_sendPacket_114 (by decide) ?_
      refine lv_iload_n hx hb dX5_sendPacket_115 rfl (lv_at hl 1 rfl) ?_
      refine lv_iadd hx hb dX5_sendPacket_116 ?_
      refine lv_topi (fun z94 ez94 => ?_)
      obtain rfl : z94 = (nI (1 + j103_3)) := ez94.trans (by rw [show 1 = nI 1 from rfl, show (nI j103_3) = nI j103_3 from rfl, nI_add] <;> exact congrArg nI (by omega))
      refine lv_dup2_11 hx hb dX5_sendPacket_117 rfl rfl ?_
      refine aldn (n := 9) (j := (1 + j103_3)) B hP (lay5 h).2.2.2.2.1 (lay5 h).2.2.2.2.2.1 rfl (by omega) (by decide) dX5_sendPacket_118 ?_
      refine lv_iconst (v := 1) hx hb dX5_sendPacket_119 (by decide) ?_
      refine lv_iadd hx hb dX5_sendPacket_120 ?_
      refine astn (n := 9) (j := (1 + j103_3)) B hP hS (lay5 h).2.2.2.2.1 (lay5 h).2.2.2.2.2.1 rfl (by omega) (by decide) dX5_sendPacket_121 (fun H locs hP hS => ?_)
      obtain ⟨ρ95, e96⟩ : ∃ z, z = up ρ89 (k + 3) (1 + j103_3) ((ρ89 (k + 3) (1 + j103_3)) + 1) := ⟨_, rfl⟩
      rw [← e96] at hP
      have hI : CI r S ρ95 := by rw [e96]; exact CI_up hI (by have := lay5l h; omega) (SP_plain (lay5 h).2.2.2.2.1 rfl (by decide)) ⟨(fun z2 => absurd (Eq.trans (Eq.symm (lay5 h).2.2.2.2.1) z2) (by decide)), (fun z2 => absurd (Eq.trans (Eq.symm (lay5 h).2.2.2.2.1) z2) (by decide))⟩ hSS
      exact b122_0 ls ρ95 _ _ j103_3 (lv_sub hl [1, 2] rfl) hP hS hI (by omega) (by omega) (by omega) (by omega)
  have b103_2 : ∀ (ls : Array Slot) (ρ : Nat → Nat → Int32) (H : Heap) (locs : List Loc) (j103_3 : Nat) (k103_4 : Nat), lv_has ls 5 [(0, .ref (E.2.1 + k)), (3, .int (nI j103_3)), (4, .ref (E.2.1 + k103_4))] → WP E ρ H → va_S (hA E) s.heap H locs → CI r S ρ → 1 ≤ j103_3 → j103_3 ≤ 3 → hk k103_4 = 1 → 0 ≤ na1 → na1 ≤ 1 → W p l e (rmk 3 120) s m ([.ref (E.2.1 + k), .int (nI na1)] : List Value).toArray below meth c H locs 0 0 (MQ below (cV E (fun ρ1 => CI r S ρ1)) ([.ref (E.2.1 + k), .int (nI na1)] : List Value).toArray s 0 0 (hA E)) (F0 m 103 ls [.int 0, .ref (E.2.1 + ((k + 4) + 1 + 42 * na1))]) := by
    intro ls ρ H locs j103_3 k103_4 hl hP hS hI lj103_3 uj103_3 hk103_4 tlna1 tuna1
    refine put2 B hP hS (lay5n (n := na1) h (by omega)) 19 (by decide) mw_329 rfl rfl rfl (fs2_19 E ((k + 4) + 1 + 42 * na1) _ _) dX5_sendPacket_103 (fun H locs hP hS => ?_)
    obtain ⟨ρ97, e98⟩ : ∃ z, z = up ρ ((k + 4) + 1 + 42 * na1) 19 0 := ⟨_, rfl⟩
    rw [← e98] at hP
    have hI : CI r S ρ97 := by rw [e98]; exact CI_up hI (kind_lt (lay5n (n := na1) h (by omega)) (by decide)) (SP_rng (lay5n (n := na1) h (by omega)) rfl (by decide) (iR_w (a := 0) (b := 0) (show iR 0 (0) (0) from ⟨by decide, by decide⟩) (by decide) (by decide))) ⟨(fun _ => ⟨by decide, by decide, by decide⟩), (fun z2 => absurd (Eq.trans (Eq.symm (lay5n (n := na1) h (by omega))) z2) (by decide))⟩ hSS
    refine lv_iload_n hx hb dX5_sendPacket_106 rfl (lv_at hl 1 rfl) ?_
    refine lv_if_eq (tgt := 122) hx hb dX5_sendPacket_107 (by decide) (fun c99 => absurd c99 (iR_ne (nI_iR (j := j103_3) (a := 1) (b := 3) (by omega) (by omega) (by omega)) (show iR 0 (0) (0) from ⟨by decide, by decide⟩) (by decide))) (fun _ => ?_)
    refine lv_aload_n hx hb dX5_sendPacket_110 rfl (lv_at hl 0 rfl) ?_
    refine get5 B hP h 2 (by decide) mw_375 rfl dX5_sendPacket_111 ?_
    refine lv_iconst (v := 1) hx hb dX5_sendPacket_114 (by decide) ?_
    refine lv_iload_n hx hb dX5_sendPacket_115 rfl (lv_at hl 1 rfl) ?_
    refine lv_iadd hx hb dX5_sendPacket_116 ?_
    refine lv_topi (fun z100 ez100 => ?_)
    obtain rfl : z100 = (nI (1 + j103_3)) := ez100.trans (by rw [show 1 = nI 1 from rfl, show (nI j103_3) = nI j103_3 from rfl, nI_add] <;> exact congrArg nI (by omega))
    refine lv_dup2_11 hx hb dX5_sendPacket_117 rfl rfl ?_
    refine aldn (n := 9) (j := (1 + j103_3)) B hP (lay5 h).2.2.2.2.1 (lay5 h).2.2.2.2.2.1 rfl (by omega) (by decide) dX5_sendPacket_118 ?_
    refine lv_iconst (v := 1) hx hb dX5_sendPacket_119 (by decide) ?_
    refine lv_iadd hx hb dX5_sendPacket_120 ?_
    refine astn (n := 9) (j := (1 + j103_3)) B hP hS (lay5 h).2.2.2.2.1 (lay5 h).2.2.2.2.2.1 rfl (by omega) (by decide) dX5_sendPacket_121 (fun H locs hP hS => ?_)
    obtain ⟨ρ101, e102⟩ : ∃ z, z = up ρ97 (k + 3) (1 + j103_3) ((ρ97 (k + 3) (1 + j103_3)) + 1) := ⟨_, rfl⟩
    rw [← e102] at hP
    have hI : CI r S ρ101 := by rw [e102]; exact CI_up hI (by have := lay5l h; omega) (SP_plain (lay5 h).2.2.2.2.1 rfl (by decide)) ⟨(fun z2 => absurd (Eq.trans (Eq.symm (lay5 h).2.2.2.2.1) z2) (by decide)), (fun z2 => absurd (Eq.trans (Eq.symm (lay5 h).2.2.2.2.1) z2) (by decide))⟩ hSS
    exact b122_1 ls ρ101 _ _ j103_3 k103_4 (lv_sub hl [1, 2] rfl) hP hS hI (by omega) (by omega) hk103_4 (by omega) (by omega)
  have b103_3 : ∀ (ls : Array Slot) (ρ : Nat → Nat → Int32) (H : Heap) (locs : List Loc) (j103_3 : Nat) (k103_4 : Nat), lv_has ls 5 [(0, .ref (E.2.1 + k)), (3, .int (nI j103_3)), (4, .ref (E.2.1 + k103_4))] → WP E ρ H → va_S (hA E) s.heap H locs → CI r S ρ → 0 ≤ j103_3 → j103_3 ≤ 0 → hk k103_4 = 1 → 0 ≤ na1 → na1 ≤ 1 → W p l e (rmk 3 120) s m ([.ref (E.2.1 + k), .int (nI na1)] : List Value).toArray below meth c H locs 0 0 (MQ below (cV E (fun ρ1 => CI r S ρ1)) ([.ref (E.2.1 + k), .int (nI na1)] : List Value).toArray s 0 0 (hA E)) (F0 m 103 ls [.int 1, .ref (E.2.1 + ((k + 4) + 1 + 42 * na1))]) := by
    intro ls ρ H locs j103_3 k103_4 hl hP hS hI lj103_3 uj103_3 hk103_4 tlna1 tuna1
    refine put2 B hP hS (lay5n (n := na1) h (by omega)) 19 (by decide) mw_329 rfl rfl rfl (fs2_19 E ((k + 4) + 1 + 42 * na1) _ _) dX5_sendPacket_103 (fun H locs hP hS => ?_)
    obtain ⟨ρ103, e104⟩ : ∃ z, z = up ρ ((k + 4) + 1 + 42 * na1) 19 1 := ⟨_, rfl⟩
    rw [← e104] at hP
    have hI : CI r S ρ103 := by rw [e104]; exact CI_up hI (kind_lt (lay5n (n := na1) h (by omega)) (by decide)) (SP_rng (lay5n (n := na1) h (by omega)) rfl (by decide) (iR_w (a := 1) (b := 1) (show iR 1 (1) (1) from ⟨by decide, by decide⟩) (by decide) (by decide))) ⟨(fun _ => ⟨by decide, by decide, by decide⟩), (fun z2 => absurd (Eq.trans (Eq.symm (lay5n (n := na1) h (by omega))) z2) (by decide))⟩ hSS
    refine lv_iload_n hx hb dX5_sendPacket_106 rfl (lv_at hl 1 rfl) ?_
    refine lv_if_eq (tgt := 122) hx hb dX5_sendPacket_107 (by decide) (fun c105 => ?_) (fun c105 => ?_)
    · skip
      have n106 := (nI_eq (a := j103_3) (b := 0) (by omega) (by omega)).mp (show (nI j103_3 = nI 0) from c105)
      exact b122_1 ls ρ103 _ _ j103_3 k103_4 (lv_sub hl [1, 2] rfl) hP hS hI (by omega) (by omega) hk103_4 (by omega) (by omega)
    · skip
      have n107 := mt (nI_eq (a := j103_3) (b := 0) (by omega) (by omega)).mpr (show ¬ (nI j103_3 = nI 0) from c105)
      refine lv_aload_n hx hb dX5_sendPacket_110 rfl (lv_at hl 0 rfl) ?_
      refine get5 B hP h 2 (by decide) mw_375 rfl dX5_sendPacket_111 ?_
      refine lv_iconst (v := 1) hx hb dX5_sendPacket_114 (by decide) ?_
      refine lv_iload_n hx hb dX5_sendPacket_115 rfl (lv_at hl 1 rfl) ?_
      refine lv_iadd hx hb dX5_sendPacket_116 ?_
      refine lv_topi (fun z108 ez108 => ?_)
      obtain rfl : z108 = (nI (1 + j103_3)) := ez108.trans (by rw [show 1 = nI 1 from rfl, show (nI j103_3) = nI j103_3 from rfl, nI_add] <;> exact congrArg nI (by omega))
      refine lv_dup2_11 hx hb dX5_sendPacket_117 rfl rfl ?_
      refine aldn (n := 9) (j := (1 + j103_3)) B hP (lay5 h).2.2.2.2.1 (lay5 h).2.2.2.2.2.1 rfl (by omega) (by decide) dX5_sendPacket_118 ?_
      refine lv_iconst (v := 1) hx hb dX5_sendPacket_119 (by decide) ?_
      refine lv_iadd hx hb dX5_sendPacket_120 ?_
      refine astn (n := 9) (j := (1 + j103_3)) B hP hS (lay5 h).2.2.2.2.1 (lay5 h).2.2.2.2.2.1 rfl (by omega) (by decide) dX5_sendPacket_121 (fun H locs hP hS => ?_)
      obtain ⟨ρ109, e110⟩ : ∃ z, z = up ρ103 (k + 3) (1 + j103_3) ((ρ103 (k + 3) (1 + j103_3)) + 1) := ⟨_, rfl⟩
      rw [← e110] at hP
      have hI : CI r S ρ109 := by rw [e110]; exact CI_up hI (by have := lay5l h; omega) (SP_plain (lay5 h).2.2.2.2.1 rfl (by decide)) ⟨(fun z2 => absurd (Eq.trans (Eq.symm (lay5 h).2.2.2.2.1) z2) (by decide)), (fun z2 => absurd (Eq.trans (Eq.symm (lay5 h).2.2.2.2.1) z2) (by decide))⟩ hSS
      exact b122_1 ls ρ109 _ _ j103_3 k103_4 (lv_sub hl [1, 2] rfl) hP hS hI (by omega) (by omega) hk103_4 (by omega) (by omega)
  have b93_0 : ∀ (ls : Array Slot) (ρ : Nat → Nat → Int32) (H : Heap) (locs : List Loc) (j93_3 : Nat), lv_has ls 5 [(0, .ref (E.2.1 + k)), (2, .ref (E.2.1 + ((k + 4) + 1 + 42 * na1))), (3, .int (nI j93_3)), (4, .null)] → WP E ρ H → va_S (hA E) s.heap H locs → CI r S ρ → 0 ≤ j93_3 → j93_3 ≤ 2 → 0 ≤ na1 → na1 ≤ 1 → W p l e (rmk 3 120) s m ([.ref (E.2.1 + k), .int (nI na1)] : List Value).toArray below meth c H locs 0 0 (MQ below (cV E (fun ρ1 => CI r S ρ1)) ([.ref (E.2.1 + k), .int (nI na1)] : List Value).toArray s 0 0 (hA E)) (F0 m 93 ls []) := by
    intro ls ρ H locs j93_3 hl hP hS hI lj93_3 uj93_3 tlna1 tuna1
    refine lv_aload_n hx hb dX5_sendPacket_93 rfl (lv_at hl 1 rfl) ?_
    refine lv_iload_n hx hb dX5_sendPacket_94 rfl (lv_at hl 2 rfl) ?_
    refine lv_if_ne (tgt := 102) hx hb dX5_sendPacket_95 (by decide) (fun c111 => ?_) (fun c111 => ?_)
    · skip
      have n112 := mt (nI_eq (a := j93_3) (b := 0) (by omega) (by omega)).mpr (show ¬ (nI j93_3 = nI 0) from c111)
      refine lv_iconst (v := 0) hx hb dX5_sendPacket_102 (by decide) ?_
      exact b103_0 ls ρ _ _ j93_3 (lv_sub hl [0, 2, 3] rfl) hP hS hI (by omega) (by omega) (by omega) (by omega)
    · skip
      have n113 := (nI_eq (a := j93_3) (b := 0) (by omega) (by omega)).mp (show (nI j93_3 = nI 0) from c111)
      refine lv_iconst (v := 1) hx hb dX5_sendPacket_98 (by decide) ?_
      refine lv_goto (tgt := 103) hx hb dX5_sendPacket_99 (by decide) ?_
      exact b103_1 ls ρ _ _ j93_3 (lv_sub hl [0, 2, 3] rfl) hP hS hI (by omega) (by omega) (by omega) (by omega)
  have b93_1 : ∀ (ls : Array Slot) (ρ : Nat → Nat → Int32) (H : Heap) (locs : List Loc) (j93_3 : Nat) (k93_4 : Nat), lv_has ls 5 [(0, .ref (E.2.1 + k)), (2, .ref (E.2.1 + ((k + 4) + 1 + 42 * na1))), (3, .int (nI j93_3)), (4, .ref (E.2.1 + k93_4))] → WP E ρ H → va_S (hA E) s.heap H locs → CI r S ρ → 0 ≤ j93_3 → j93_3 ≤ 3 → hk k93_4 = 1 → 0 ≤ na1 → na1 ≤ 1 → W p l e (rmk 3 120) s m ([.ref (E.2.1 + k), .int (nI na1)] : List Value).toArray below meth c H locs 0 0 (MQ below (cV E (fun ρ1 => CI r S ρ1)) ([.ref (E.2.1 + k), .int (nI na1)] : List Value).toArray s 0 0 (hA E)) (F0 m 93 ls []) := by
    intro ls ρ H locs j93_3 k93_4 hl hP hS hI lj93_3 uj93_3 hk93_4 tlna1 tuna1
    refine lv_aload_n hx hb dX5_sendPacket_93 rfl (lv_at hl 1 rfl) ?_
    refine lv_iload_n hx hb dX5_sendPacket_94 rfl (lv_at hl 2 rfl) ?_
    refine lv_if_ne (tgt := 102) hx hb dX5_sendPacket_95 (by decide) (fun c114 => ?_) (fun c114 => ?_)
    · skip
      have n115 := mt (nI_eq (a := j93_3) (b := 0) (by omega) (by omega)).mpr (show ¬ (nI j93_3 = nI 0) from c114)
      refine lv_iconst (v := 0) hx hb dX5_sendPacket_102 (by decide) ?_
      exact b103_2 ls ρ _ _ j93_3 k93_4 (lv_sub hl [0, 2, 3] rfl) hP hS hI (by omega) (by omega) hk93_4 (by omega) (by omega)
    · skip
      have n116 := (nI_eq (a := j93_3) (b := 0) (by omega) (by omega)).mp (show (nI j93_3 = nI 0) from c114)
      refine lv_iconst (v := 1) hx hb dX5_sendPacket_98 (by decide) ?_
      refine lv_goto (tgt := 103) hx hb dX5_sendPacket_99 (by decide) ?_
      exact b103_3 ls ρ _ _ j93_3 k93_4 (lv_sub hl [0, 2, 3] rfl) hP hS hI (by omega) (by omega) hk93_4 (by omega) (by omega)
  refine lv_aload_n hx hb dX5_sendPacket_0 rfl (lv_at hl 0 rfl) ?_
  refine get5 B hP h 3 (by decide) mw_377 rfl dX5_sendPacket_1 ?_
  refine lv_iload_n hx hb dX5_sendPacket_4 rfl (lv_at hl 1 rfl) ?_
  refine aldNn (j := na1) B hP (lay5 h).2.2.2.2.2.2.1 (lay5 h).2.2.2.2.2.2.2.1 rfl (by omega) dX5_sendPacket_5 ?_
  refine lv_astore_n (lv' := [(2, .ref (E.2.1 + ((k + 4) + 1 + 42 * na1))), (0, .ref (E.2.1 + k)), (1, .int (nI na1))]) hx hb dX5_sendPacket_6 rfl hl (by decide) rfl (fun ls hl => ?_)
  refine lv_aload_n hx hb dX5_sendPacket_7 rfl (lv_at hl 0 rfl) ?_
  refine get2 B hP (lay5n (n := na1) h (by omega)) 17 (by decide) mw_325 rfl dX5_sendPacket_8 ?_
  refine lv_iconst (v := (-1)) hx hb dX5_sendPacket_11 (by decide) ?_
  refine lv_icmp_ne (tgt := 16) hx hb dX5_sendPacket_12 (by decide) (fun c117 => ?_) (fun c117 => ?_)
  · skip
    refine lv_aload_n hx hb dX5_sendPacket_16 rfl (lv_at hl 1 rfl) ?_
    refine get5 B hP h 2 (by decide) mw_375 rfl dX5_sendPacket_17 ?_
    refine lv_iconst (v := 0) hx hb dX5_sendPacket_20 (by decide) ?_
    refine lv_dup2_11 hx hb dX5_sendPacket_21 rfl rfl ?_
    refine aldn (n := 9) (j := 0) B hP (lay5 h).2.2.2.2.1 (lay5 h).2.2.2.2.2.1 rfl (by decide) (by decide) dX5_sendPacket_22 ?_
    refine lv_iconst (v := 1) hx hb dX5_sendPacket_23 (by decide) ?_
    refine lv_iadd hx hb dX5_sendPacket_24 ?_
    refine astn (n := 9) (j := 0) B hP hS (lay5 h).2.2.2.2.1 (lay5 h).2.2.2.2.2.1 rfl (by decide) (by decide) dX5_sendPacket_25 (fun H locs hP hS => ?_)
    obtain ⟨ρ118, e119⟩ : ∃ z, z = up ρ (k + 3) 0 ((ρ (k + 3) 0) + 1) := ⟨_, rfl⟩
    rw [← e119] at hP
    have hI : CI r S ρ118 := by rw [e119]; exact CI_up hI (by have := lay5l h; omega) (SP_plain (lay5 h).2.2.2.2.1 rfl (by decide)) ⟨(fun z2 => absurd (Eq.trans (Eq.symm (lay5 h).2.2.2.2.1) z2) (by decide)), (fun z2 => absurd (Eq.trans (Eq.symm (lay5 h).2.2.2.2.1) z2) (by decide))⟩ hSS
    refine lv_aload_n hx hb dX5_sendPacket_26 rfl (lv_at hl 1 rfl) ?_
    refine lv_iload_n hx hb dX5_sendPacket_27 rfl (lv_at hl 2 rfl) ?_
    refine call_i (cVt (k := k) (av := [.int (nI na1)]) (rest := []) B hP hS (d_X5_lossOnAir l E ρ118 r S hSS k h na1 (by omega) (by omega) hI) lk_RX5_248 (hrecv (ci := 5) B hP (hk_lt (c := 5) h (by decide)) (hcc5 _ _ h) rfl) rfl rfl hl.1 (Nat.le_of_ble_eq_true rfl) ⟨Nat.le_of_ble_eq_true rfl, Nat.le_of_ble_eq_true rfl⟩ ⟨Nat.le_of_ble_eq_true rfl, Nat.le_of_ble_eq_true rfl⟩ dX5_sendPacket_28) hS (fun r120 ρ121 H locs q122 hP hS => ?_)
    obtain ⟨hI, i123⟩ := q122
    obtain ⟨j124, lj124, uj124, ej124⟩ := iR_nat (a := 0) (b := 2) i123
    refine lv_topi (fun z125 ez125 => ?_)
    obtain rfl : z125 = nI j124 := ez125.trans ej124
    refine lv_istore_n (lv' := [(3, .int (nI j124)), (2, .ref (E.2.1 + ((k + 4) + 1 + 42 * na1))), (0, .ref (E.2.1 + k)), (1, .int (nI na1))]) hx hb dX5_sendPacket_31 rfl hl (by decide) rfl (fun ls hl => ?_)
    refine lv_aload_n hx hb dX5_sendPacket_32 rfl (lv_at hl 1 rfl) ?_
    refine lv_aload_n hx hb dX5_sendPacket_33 rfl (lv_at hl 1 rfl) ?_
    refine get2 B hP (lay5n (n := na1) h (by omega)) 15 (by decide) mw_320 rfl dX5_sendPacket_34 ?_
    refine call_q (cVt (k := ((k + 4) + 1 + 42 * na1)) (av := [.int (ρ121 ((k + 4) + 1 + 42 * na1) 15)]) (rest := []) B hP hS (d_X2_linkAt l E ρ121 r S hSS ((k + 4) + 1 + 42 * na1) (lay5n (n := na1) h (by omega)) (ρ121 ((k + 4) + 1 + 42 * na1) 15) hI) lk_RX5_64 (hrecv (ci := 2) B hP (hk_lt (c := 2) (lay5n (n := na1) h (by omega)) (by decide)) (hcc2 _ _ (lay5n (n := na1) h (by omega))) rfl) rfl rfl hl.1 (Nat.le_of_ble_eq_true rfl) ⟨Nat.le_of_ble_eq_true rfl, Nat.le_of_ble_eq_true rfl⟩ ⟨Nat.le_of_ble_eq_true rfl, Nat.le_of_ble_eq_true rfl⟩ dX5_sendPacket_37) hS (fun r126 ρ127 H locs q128 hP hS => ?_)
    obtain ⟨rfl, hI, q128⟩ := q128
    rcases q128 with rfl | ⟨j129, k130, rfl, hk130, ej129, uj129, gj129⟩
    · skip
      refine W.eq (g2 := F0 m 40 ls [.null]) rfl ?_
      refine lv_astoreN (lv' := [(4, .null), (3, .int (nI j124)), (2, .ref (E.2.1 + ((k + 4) + 1 + 42 * na1))), (0, .ref (E.2.1 + k)), (1, .int (nI na1))]) hx hb dX5_sendPacket_40 hl (by decide) rfl (fun ls hl => ?_)
      refine lv_aloadN hx hb dX5_sendPacket_42 (lv_at hl 0 rfl) ?_
      refine lv_ifnonnullN hx hb dX5_sendPacket_44 ?_
      refine lv_aload_n hx hb dX5_sendPacket_47 rfl (lv_at hl 3 rfl) ?_
      refine get5 B hP h 2 (by decide) mw_375 rfl dX5_sendPacket_48 ?_
      refine lv_bipush (v := 7) hx hb dX5_sendPacket_51 (by decide) ?_
      refine lv_dup2_11 hx hb dX5_sendPacket_53 rfl rfl ?_
      refine aldn (n := 9) (j := 7) B hP (lay5 h).2.2.2.2.1 (lay5 h).2.2.2.2.2.1 rfl (by decide) (by decide) dX5_sendPacket_54 ?_
      refine lv_iconst (v := 1) hx hb dX5_sendPacket_55 (by decide) ?_
      refine lv_iadd hx hb dX5_sendPacket_56 ?_
      refine astn (n := 9) (j := 7) B hP hS (lay5 h).2.2.2.2.1 (lay5 h).2.2.2.2.2.1 rfl (by decide) (by decide) dX5_sendPacket_57 (fun H locs hP hS => ?_)
      obtain ⟨ρ131, e132⟩ : ∃ z, z = up ρ121 (k + 3) 7 ((ρ121 (k + 3) 7) + 1) := ⟨_, rfl⟩
      rw [← e132] at hP
      have hI : CI r S ρ131 := by rw [e132]; exact CI_up hI (by have := lay5l h; omega) (SP_plain (lay5 h).2.2.2.2.1 rfl (by decide)) ⟨(fun z2 => absurd (Eq.trans (Eq.symm (lay5 h).2.2.2.2.1) z2) (by decide)), (fun z2 => absurd (Eq.trans (Eq.symm (lay5 h).2.2.2.2.1) z2) (by decide))⟩ hSS
      refine lv_goto (tgt := 93) hx hb dX5_sendPacket_58 (by decide) ?_
      exact b93_0 ls ρ131 _ _ j124 (lv_sub hl [3, 2, 1, 0] rfl) hP hS hI (by omega) (by omega) (by omega) (by omega)
    · skip
      refine W.eq (g2 := F0 m 40 ls [.ref (E.2.1 + k130)]) rfl ?_
      have i133 : iR (ρ121 ((k + 4) + 1 + 42 * na1) 8) 1 4 := iR_w gj129 (by omega) (by omega)
      refine lv_astore (lv' := [(4, .ref (E.2.1 + k130)), (3, .int (nI j124)), (2, .ref (E.2.1 + ((k + 4) + 1 + 42 * na1))), (0, .ref (E.2.1 + k)), (1, .int (nI na1))]) hx hb dX5_sendPacket_40 hl (by decide) rfl (fun ls hl => ?_)
      refine lv_aload hx hb dX5_sendPacket_42 (lv_at hl 0 rfl) ?_
      refine lv_ifnonnull (tgt := 61) hx hb dX5_sendPacket_44 (by decide) ?_
      refine lv_aload_n hx hb dX5_sendPacket_61 rfl (lv_at hl 2 rfl) ?_
      refine call_v (cVt (k := ((k + 4) + 1 + 42 * na1)) (av := []) (rest := []) B hP hS (d_X2_tallySent l E ρ121 r S hSS ((k + 4) + 1 + 42 * na1) (lay5n (n := na1) h (by omega)) hI) lk_RX5_251 (hrecv (ci := 2) B hP (hk_lt (c := 2) (lay5n (n := na1) h (by omega)) (by decide)) (hcc2 _ _ (lay5n (n := na1) h (by omega))) rfl) rfl rfl hl.1 (Nat.le_of_ble_eq_true rfl) ⟨Nat.le_of_ble_eq_true rfl, Nat.le_of_ble_eq_true rfl⟩ ⟨Nat.le_of_ble_eq_true rfl, Nat.le_of_ble_eq_true rfl⟩ dX5_sendPacket_62) hS (fun ρ135 H locs q136 hP hS => ?_)
      have hI := q136
      refine lv_iload_n hx hb dX5_sendPacket_65 rfl (lv_at hl 1 rfl) ?_
      refine lv_if_ne (tgt := 93) hx hb dX5_sendPacket_66 (by decide) (fun c138 => ?_) (fun c138 => ?_)
      · skip
        have n139 := mt (nI_eq (a := j124) (b := 0) (by omega) (by omega)).mpr (show ¬ (nI j124 = nI 0) from c138)
        exact b93_1 ls ρ135 _ _ j124 k130 (lv_sub hl [3, 2, 1, 0] rfl) hP hS hI (by omega) (by omega) hk130 (by omega) (by omega)
      · skip
        have n140 := (nI_eq (a := j124) (b := 0) (by omega) (by omega)).mp (show (nI j124 = nI 0) from c138)
        refine lv_aload_n hx hb dX5_sendPacket_69 rfl (lv_at hl 2 rfl) ?_
        refine get2 B hP (lay5n (n := na1) h (by omega)) 16 (by decide) mw_323 rfl dX5_sendPacket_70 ?_
        refine lv_aload hx hb dX5_sendPacket_73 (lv_at hl 0 rfl) ?_
        refine get1 B hP hk130 0 (by decide) mw_194 rfl dX5_sendPacket_75 ?_
        refine get3 B hP (lay1 hk130).1 0 (by decide) mw_94 rfl dX5_sendPacket_78 ?_
        refine call_i (cN (av := [.int (ρ135 ((k + 4) + 1 + 42 * na1) 16), .int (ρ135 (k130 + 1) 0)]) (rest := []) B hP hS (d_X6_byMap l E ρ135 r S hSS (ρ135 ((k + 4) + 1 + 42 * na1) 16) (ρ135 (k130 + 1) 0) hI) lk_RX5_101 rfl rfl hl.1 (Nat.le_of_ble_eq_true rfl) ⟨Nat.le_of_ble_eq_true rfl, Nat.le_of_ble_eq_true rfl⟩ ⟨Nat.le_of_ble_eq_true rfl, Nat.le_of_ble_eq_true rfl⟩ dX5_sendPacket_81) hS (fun r141 ρ142 H locs q143 hP hS => ?_)
        obtain ⟨rfl, hI⟩ := q143
        refine lv_aload_n hx hb dX5_sendPacket_84 rfl (lv_at hl 2 rfl) ?_
        refine get2 B hP (lay5n (n := na1) h (by omega)) 17 (by decide) mw_325 rfl dX5_sendPacket_85 ?_
        refine lv_icmp_eq (tgt := 93) hx hb dX5_sendPacket_88 (by decide) (fun c145 => ?_) (fun c145 => ?_)
        · skip
          exact b93_1 ls ρ135 _ _ j124 k130 (lv_sub hl [3, 2, 1, 0] rfl) hP hS hI (by omega) (by omega) hk130 (by omega) (by omega)
        · skip
          refine lv_iconst (v := 3) hx hb dX5_sendPacket_91 (by decide) ?_
          refine lv_istore_n (lv' := [(3, .int 3), (4, .ref (E.2.1 + k130)), (2, .ref (E.2.1 + ((k + 4) + 1 + 42 * na1))), (0, .ref (E.2.1 + k)), (1, .int (nI na1))]) hx hb dX5_sendPacket_92 rfl hl (by decide) rfl (fun ls hl => ?_)
          exact b93_1 ls ρ135 _ _ 3 k130 (lv_sub hl [3, 2, 0, 1] rfl) hP hS hI (by omega) (by omega) hk130 (by omega) (by omega)
  · skip
    have i146 : iR (ρ ((k + 4) + 1 + 42 * na1) 17) (-1) (-1) := (by rw [c117]; exact ⟨by decide, by decide⟩)
    exact ret_v B hr hlk hP hS dX5_sendPacket_15 (hI)

theorem lk_RX5_280 : LkV RX5 280 RX2 yX2_linkOfRadio cX2_linkOfRadio 3 (some (.object "HopNet$Link")) 1 := ⟨⟨mw_792, mw_793, mw_794, mw_54, mw_795⟩, by decide +kernel⟩
theorem lk_RX5_283 : LkV RX5 283 RX4 yX4_isFull cX4_isFull 1 (some .boolean) 0 := ⟨⟨mw_796, mw_579, mw_580, mw_57, mw_581⟩, by decide +kernel⟩
theorem lk_RX5_286 : LkV RX5 286 RX4 yX4_append cX4_append 3 none 2 := ⟨⟨mw_797, mw_583, mw_584, mw_57, mw_585⟩, by decide +kernel⟩
set_option maxHeartbeats 4000000 in
set_option maxRecDepth 100000 in
theorem d_X5_passOn (l : Launch) (E : hE) (ρ r : Nat → Nat → Int32) (S : Nat × Nat → Prop) (hSS : SK S) (k : Nat) (h : hk k = 5) (na1 : Nat) (lna1 : 0 ≤ na1) (una1 : na1 ≤ 1) (k2 : Nat) (h2 : hk k2 = 1) (hI : CI r S ρ) : Met l yX5_passOn (.code yX5_passOn cX5_passOn 5 none :: gw_all) (rmk 2 80) (cPre E ρ [.ref (E.2.1 + k), .int (nI na1), .ref (E.2.1 + k2)]) (cV E (fun ρ1 => CI r S ρ1)) 0 0 (hA E) := by
  refine ent (own := RX5) (by decide) rfl (Nat.le_of_ble_eq_true rfl) ?_
  intro p e s m below meth c ls B hr hlk hl hP hS
  have hx := B.1.1
  have hb := B.1.2.1
  have hown := B.1.2.2.2.1
  have hts := B.1.2.2.2.2
  have hl : lv_has ls 5 [(0, .ref (E.2.1 + k)), (1, .int (nI na1)), (2, .ref (E.2.1 + k2))] := hl
  refine lv_aload_n hx hb dX5_passOn_0 rfl (lv_at hl 2 rfl) ?_
  refine get1 B hP h2 1 (by decide) mw_199 rfl dX5_passOn_1 ?_
  refine get4 B hP (lay1 h2).2.1 0 (by decide) mw_127 rfl dX5_passOn_4 ?_
  refine lv_iconst (v := 0) hx hb dX5_passOn_7 (by decide) ?_
  refine aldn (n := 8) (j := 0) B hP (lay4 (lay1 h2).2.1).1 (lay4 (lay1 h2).2.1).2.1 rfl (by decide) (by decide) dX5_passOn_8 ?_
  refine lv_istore_n (lv' := [(3, .int (ρ (k2 + 3) 0)), (0, .ref (E.2.1 + k)), (1, .int (nI na1)), (2, .ref (E.2.1 + k2))]) hx hb dX5_passOn_9 rfl hl (by decide) rfl (fun ls hl => ?_)
  refine lv_aload_n hx hb dX5_passOn_10 rfl (lv_at hl 1 rfl) ?_
  refine get5 B hP h 3 (by decide) mw_377 rfl dX5_passOn_11 ?_
  refine lv_iconst (v := 1) hx hb dX5_passOn_14 (by decide) ?_
  refine lv_iload_n hx hb dX5_passOn_15 rfl (lv_at hl 2 rfl) ?_
  refine lv_isub hx hb dX5_passOn_16 ?_
  obtain ⟨j30, lj30, uj30, ej30⟩ := iR_nat (a := 0) (b := 1) (iR_sub (a' := 0) (b' := 1) (show iR 1 (1) (1) from ⟨by decide, by decide⟩) (nI_iR (j := na1) (a := 0) (b := 1) (by omega) (by omega) (by omega)) (by decide) (by decide) (by decide) (by decide))
  refine lv_topi (fun z31 ez31 => ?_)
  obtain rfl : z31 = nI j30 := ez31.trans ej30
  refine aldNn (j := j30) B hP (lay5 h).2.2.2.2.2.2.1 (lay5 h).2.2.2.2.2.2.2.1 rfl (by omega) dX5_passOn_17 ?_
  refine lv_aload_n hx hb dX5_passOn_18 rfl (lv_at hl 3 rfl) ?_
  refine get1 B hP h2 4 (by decide) mw_209 rfl dX5_passOn_19 ?_
  refine call_q (cVt (k := ((k + 4) + 1 + 42 * j30)) (av := [.int (ρ k2 4)]) (rest := []) B hP hS (d_X2_linkOfRadio l E ρ r S hSS ((k + 4) + 1 + 42 * j30) (lay5n (n := j30) h (by omega)) (ρ k2 4) hI) lk_RX5_280 (hrecv (ci := 2) B hP (hk_lt (c := 2) (lay5n (n := j30) h (by omega)) (by decide)) (hcc2 _ _ (lay5n (n := j30) h (by omega))) rfl) rfl rfl hl.1 (Nat.le_of_ble_eq_true rfl) ⟨Nat.le_of_ble_eq_true rfl, Nat.le_of_ble_eq_true rfl⟩ ⟨Nat.le_of_ble_eq_true rfl, Nat.le_of_ble_eq_true rfl⟩ dX5_passOn_22) hS (fun r32 ρ33 H locs q34 hP hS => ?_)
  obtain ⟨rfl, hI, q34⟩ := q34
  rcases q34 with rfl | ⟨k35, rfl, hk35⟩
  · skip
    refine W.eq (g2 := F0 m 25 ls [.null]) rfl ?_
    refine lv_astoreN (lv' := [(4, .null), (3, .int (ρ (k2 + 3) 0)), (0, .ref (E.2.1 + k)), (1, .int (nI na1)), (2, .ref (E.2.1 + k2))]) hx hb dX5_passOn_25 hl (by decide) rfl (fun ls hl => ?_)
    refine lv_iload_n hx hb dX5_passOn_27 rfl (lv_at hl 1 rfl) ?_
    refine lv_sipush (v := 128) hx hb dX5_passOn_28 (by decide) ?_
    refine lv_icmp_lt (tgt := 39) hx hb dX5_passOn_31 (by decide) (fun c36 => ?_) (fun c36 => ?_)
    · skip
      have i37 : iR (ρ (k2 + 3) 0) (-2147483648) (127) := (iR_ltL (iR_any (ρ (k2 + 3) 0)) (show iR 128 (128) (128) from ⟨by decide, by decide⟩) c36 (by decide))
      exact ret_v B hr hlk hP hS dX5_passOn_39 (hI)
    · skip
      have i38 : iR (ρ (k2 + 3) 0) (128) (2147483647) := (iR_geL (iR_any (ρ (k2 + 3) 0)) (show iR 128 (128) (128) from ⟨by decide, by decide⟩) c36 (by decide))
      refine lv_aloadN hx hb dX5_passOn_34 (lv_at hl 0 rfl) ?_
      refine lv_ifnonnullN hx hb dX5_passOn_36 ?_
      exact ret_v B hr hlk hP hS dX5_passOn_39 (hI)
  · skip
    refine W.eq (g2 := F0 m 25 ls [.ref (E.2.1 + k35)]) rfl ?_
    refine lv_astore (lv' := [(4, .ref (E.2.1 + k35)), (3, .int (ρ (k2 + 3) 0)), (0, .ref (E.2.1 + k)), (1, .int (nI na1)), (2, .ref (E.2.1 + k2))]) hx hb dX5_passOn_25 hl (by decide) rfl (fun ls hl => ?_)
    refine lv_iload_n hx hb dX5_passOn_27 rfl (lv_at hl 1 rfl) ?_
    refine lv_sipush (v := 128) hx hb dX5_passOn_28 (by decide) ?_
    refine lv_icmp_lt (tgt := 39) hx hb dX5_passOn_31 (by decide) (fun c39 => ?_) (fun c39 => ?_)
    · skip
      have i40 : iR (ρ (k2 + 3) 0) (-2147483648) (127) := (iR_ltL (iR_any (ρ (k2 + 3) 0)) (show iR 128 (128) (128) from ⟨by decide, by decide⟩) c39 (by decide))
      exact ret_v B hr hlk hP hS dX5_passOn_39 (hI)
    · skip
      have i41 : iR (ρ (k2 + 3) 0) (128) (2147483647) := (iR_geL (iR_any (ρ (k2 + 3) 0)) (show iR 128 (128) (128) from ⟨by decide, by decide⟩) c39 (by decide))
      refine lv_aload hx hb dX5_passOn_34 (lv_at hl 0 rfl) ?_
      refine lv_ifnonnull (tgt := 40) hx hb dX5_passOn_36 (by decide) ?_
      refine lv_aload hx hb dX5_passOn_40 (lv_at hl 0 rfl) ?_
      refine get1 B hP hk35 2 (by decide) mw_202 rfl dX5_passOn_42 ?_
      refine call_i (cVt (k := (k35 + 5)) (av := []) (rest := []) B hP hS (d_X4_isFull l E ρ r S hSS (k35 + 5) (lay1 hk35).2.2.1 hI) lk_RX5_283 (hrecv (ci := 4) B hP (hk_lt (c := 4) (lay1 hk35).2.2.1 (by decide)) (hcc4 _ _ (lay1 hk35).2.2.1) rfl) rfl rfl hl.1 (Nat.le_of_ble_eq_true rfl) ⟨Nat.le_of_ble_eq_true rfl, Nat.le_of_ble_eq_true rfl⟩ ⟨Nat.le_of_ble_eq_true rfl, Nat.le_of_ble_eq_true rfl⟩ dX5_passOn_45) hS (fun r42 ρ43 H locs q44 hP hS => ?_)
      obtain ⟨rfl, hI, i45⟩ := q44
      obtain ⟨j46, lj46, uj46, ej46⟩ := iR_nat (a := 0) (b := 1) i45
      refine lv_topi (fun z47 ez47 => ?_)
      obtain rfl : z47 = nI j46 := ez47.trans ej46
      refine lv_if_eq (tgt := 65) hx hb dX5_passOn_48 (by decide) (fun c48 => ?_) (fun c48 => ?_)
      · skip
        have n49 := (nI_eq (a := j46) (b := 0) (by omega) (by omega)).mp (show (nI j46 = nI 0) from c48)
        refine lv_aload hx hb dX5_passOn_65 (lv_at hl 0 rfl) ?_
        refine get1 B hP hk35 2 (by decide) mw_202 rfl dX5_passOn_67 ?_
        refine lv_iload_n hx hb dX5_passOn_70 rfl (lv_at hl 1 rfl) ?_
        refine lv_aload_n hx hb dX5_passOn_71 rfl (lv_at hl 2 rfl) ?_
        refine get5 B hP h 5 (by decide) mw_381 rfl dX5_passOn_72 ?_
        refine call_v (cVt (k := (k35 + 5)) (av := [.int (ρ (k2 + 3) 0), .int (ρ k 5)]) (rest := []) B hP hS (d_X4_append l E ρ r S hSS (k35 + 5) (lay1 hk35).2.2.1 (ρ (k2 + 3) 0) (ρ k 5) hI) lk_RX5_286 (hrecv (ci := 4) B hP (hk_lt (c := 4) (lay1 hk35).2.2.1 (by decide)) (hcc4 _ _ (lay1 hk35).2.2.1) rfl) rfl rfl hl.1 (Nat.le_of_ble_eq_true rfl) ⟨Nat.le_of_ble_eq_true rfl, Nat.le_of_ble_eq_true rfl⟩ ⟨Nat.le_of_ble_eq_true rfl, Nat.le_of_ble_eq_true rfl⟩ dX5_passOn_75) hS (fun ρ51 H locs q52 hP hS => ?_)
        have hI := q52
        refine lv_aload_n hx hb dX5_passOn_78 rfl (lv_at hl 2 rfl) ?_
        refine get5 B hP h 2 (by decide) mw_375 rfl dX5_passOn_79 ?_
        refine lv_iconst (v := 5) hx hb dX5_passOn_82 (by decide) ?_
        refine lv_dup2_11 hx hb dX5_passOn_83 rfl rfl ?_
        refine aldn (n := 9) (j := 5) B hP (lay5 h).2.2.2.2.1 (lay5 h).2.2.2.2.2.1 rfl (by decide) (by decide) dX5_passOn_84 ?_
        refine lv_iconst (v := 1) hx hb dX5_passOn_85 (by decide) ?_
        refine lv_iadd hx hb dX5_passOn_86 ?_
        refine astn (n := 9) (j := 5) B hP hS (lay5 h).2.2.2.2.1 (lay5 h).2.2.2.2.2.1 rfl (by decide) (by decide) dX5_passOn_87 (fun H locs hP hS => ?_)
        obtain ⟨ρ54, e55⟩ : ∃ z, z = up ρ51 (k + 3) 5 ((ρ51 (k + 3) 5) + 1) := ⟨_, rfl⟩
        rw [← e55] at hP
        have hI : CI r S ρ54 := by rw [e55]; exact CI_up hI (by have := lay5l h; omega) (SP_plain (lay5 h).2.2.2.2.1 rfl (by decide)) ⟨(fun z2 => absurd (Eq.trans (Eq.symm (lay5 h).2.2.2.2.1) z2) (by decide)), (fun z2 => absurd (Eq.trans (Eq.symm (lay5 h).2.2.2.2.1) z2) (by decide))⟩ hSS
        exact ret_v B hr hlk hP hS dX5_passOn_88 (hI)
      · skip
        have n56 := mt (nI_eq (a := j46) (b := 0) (by omega) (by omega)).mpr (show ¬ (nI j46 = nI 0) from c48)
        refine lv_aload_n hx hb dX5_passOn_51 rfl (lv_at hl 2 rfl) ?_
        refine get5 B hP h 2 (by decide) mw_375 rfl dX5_passOn_52 ?_
        refine lv_bipush (v := 6) hx hb dX5_passOn_55 (by decide) ?_
        refine lv_dup2_11 hx hb dX5_passOn_57 rfl rfl ?_
        refine aldn (n := 9) (j := 6) B hP (lay5 h).2.2.2.2.1 (lay5 h).2.2.2.2.2.1 rfl (by decide) (by decide) dX5_passOn_58 ?_
        refine lv_iconst (v := 1) hx hb dX5_passOn_59 (by decide) ?_
        refine lv_iadd hx hb dX5_passOn_60 ?_
        refine astn (n := 9) (j := 6) B hP hS (lay5 h).2.2.2.2.1 (lay5 h).2.2.2.2.2.1 rfl (by decide) (by decide) dX5_passOn_61 (fun H locs hP hS => ?_)
        obtain ⟨ρ57, e58⟩ : ∃ z, z = up ρ (k + 3) 6 ((ρ (k + 3) 6) + 1) := ⟨_, rfl⟩
        rw [← e58] at hP
        have hI : CI r S ρ57 := by rw [e58]; exact CI_up hI (by have := lay5l h; omega) (SP_plain (lay5 h).2.2.2.2.1 rfl (by decide)) ⟨(fun z2 => absurd (Eq.trans (Eq.symm (lay5 h).2.2.2.2.1) z2) (by decide)), (fun z2 => absurd (Eq.trans (Eq.symm (lay5 h).2.2.2.2.1) z2) (by decide))⟩ hSS
        refine lv_goto (tgt := 88) hx hb dX5_passOn_62 (by decide) ?_
        exact ret_v B hr hlk hP hS dX5_passOn_88 (hI)

theorem lk_RX5_257 : LkV RX5 257 RX2 yX2_endCastTurn cX2_endCastTurn 3 none 1 := ⟨⟨mw_764, mw_765, mw_766, mw_54, mw_767⟩, by decide +kernel⟩
theorem lk_RX5_263 : LkV RX5 263 RX4 yX4_takeFirst cX4_takeFirst 3 none 1 := ⟨⟨mw_777, mw_778, mw_779, mw_57, mw_780⟩, by decide +kernel⟩
theorem lk_RX5_266 : LkV RX5 266 RX4 yX4_hearFirst cX4_hearFirst 1 (some .boolean) 0 := ⟨⟨mw_784, mw_785, mw_786, mw_57, mw_787⟩, by decide +kernel⟩
theorem lk_RX5_269 : LkV RX5 269 RX5 yX5_passOn cX5_passOn 5 none 2 := ⟨⟨mw_788, mw_789, mw_790, mw_53, mw_791⟩, by decide +kernel⟩
theorem lk_RX5_273 : LkV RX5 273 RX1 yX1_hearMapOf cX1_hearMapOf 2 none 1 := ⟨⟨mw_798, mw_799, mw_800, mw_56, mw_801⟩, by decide +kernel⟩
set_option maxHeartbeats 4000000 in
set_option maxRecDepth 100000 in
theorem d_X5_hearPacket (l : Launch) (E : hE) (ρ r : Nat → Nat → Int32) (S : Nat × Nat → Prop) (hSS : SK S) (k : Nat) (h : hk k = 5) (na1 : Nat) (lna1 : 0 ≤ na1) (una1 : na1 ≤ 1) (hI : CI r (SA S ((k + 4) + 1 + 42 * na1) 0) ρ) (hne : ∀ x, S x → x.1 ≠ ((k + 4) + 1 + 42 * na1)) : Met l yX5_hearPacket (.code yX5_hearPacket cX5_hearPacket 4 none :: gw_all) (rmk 4 160) (cPre E ρ [.ref (E.2.1 + k), .int (nI na1)]) (cV E (fun ρ1 => CI r S ρ1)) 0 0 (hA E) := by
  refine ent (own := RX5) (by decide) rfl (Nat.le_of_ble_eq_true rfl) ?_
  intro p e s m below meth c ls B hr hlk hl hP hS
  have hx := B.1.1
  have hb := B.1.2.1
  have hown := B.1.2.2.2.1
  have hts := B.1.2.2.2.2
  have hl : lv_has ls 4 [(0, .ref (E.2.1 + k)), (1, .int (nI na1))] := hl
  have b93_0 : ∀ (ls : Array Slot) (ρ : Nat → Nat → Int32) (H : Heap) (locs : List Loc) (k93_3 : Nat), lv_has ls 4 [(2, .ref (E.2.1 + ((k + 4) + 1 + 42 * na1))), (3, .ref (E.2.1 + k93_3))] → WP E ρ H → va_S (hA E) s.heap H locs → CI r (SA S ((k + 4) + 1 + 42 * na1) 0) ρ → hk k93_3 = 1 → 0 ≤ na1 → na1 ≤ 1 → W p l e (rmk 4 160) s m ([.ref (E.2.1 + k), .int (nI na1)] : List Value).toArray below meth c H locs 0 0 (MQ below (cV E (fun ρ1 => CI r S ρ1)) ([.ref (E.2.1 + k), .int (nI na1)] : List Value).toArray s 0 0 (hA E)) (F0 m 93 ls []) := by
    intro ls ρ H locs k93_3 hl hP hS hI hk93_3 tlna1 tuna1
    refine lv_aload_n hx hb dX5_hearPacket_93 rfl (lv_at hl 1 rfl) ?_
    refine get1 B hP hk93_3 5 (by decide) mw_214 rfl dX5_hearPacket_94 ?_
    have i60 : iR (ρ k93_3 5) 0 1 := CI_get hI (kind_lt hk93_3 (by decide)) hk93_3 rfl
    obtain ⟨j61, lj61, uj61, ej61⟩ := iR_nat (a := 0) (b := 1) i60
    refine lv_topi (fun z62 ez62 => ?_)
    obtain rfl : z62 = nI j61 := ez62.trans ej61
    refine lv_if_ne (tgt := 108) hx hb dX5_hearPacket_97 (by decide) (fun c63 => ?_) (fun c63 => ?_)
    · skip
      have n64 := mt (nI_eq (a := j61) (b := 0) (by omega) (by omega)).mpr (show ¬ (nI j61 = nI 0) from c63)
      exact ret_v B hr hlk hP hS dX5_hearPacket_108 ((CI_S hI (fun x hx => hI.2.1 x (Or.inl hx))))
    · skip
      have n65 := (nI_eq (a := j61) (b := 0) (by omega) (by omega)).mp (show (nI j61 = nI 0) from c63)
      refine lv_aload_n hx hb dX5_hearPacket_100 rfl (lv_at hl 1 rfl) ?_
      refine lv_aload_n hx hb dX5_hearPacket_101 rfl (lv_at hl 0 rfl) ?_
      refine get2 B hP (lay5n (n := na1) h (by omega)) 0 (by decide) mw_283 rfl dX5_hearPacket_102 ?_
      refine call_v (cVt (k := k93_3) (av := [.ref (E.2.1 + (((k + 4) + 1 + 42 * na1) + 1))]) (rest := []) B hP hS (d_X1_hearMapOf l E ρ r (SA S ((k + 4) + 1 + 42 * na1) 0) (hSA hSS (lay5n h (show na1 < 2 by omega)) (by decide)) k93_3 hk93_3 (((k + 4) + 1 + 42 * na1) + 1) (lay2 (lay5n (n := na1) h (by omega))).1 hI) lk_RX5_273 (hrecv (ci := 1) B hP (hk_lt (c := 1) hk93_3 (by decide)) (hcc1 _ _ hk93_3) rfl) rfl rfl hl.1 (Nat.le_of_ble_eq_true rfl) ⟨Nat.le_of_ble_eq_true rfl, Nat.le_of_ble_eq_true rfl⟩ ⟨Nat.le_of_ble_eq_true rfl, Nat.le_of_ble_eq_true rfl⟩ dX5_hearPacket_105) hS (fun ρ67 H locs q68 hP hS => ?_)
      have hI := q68
      exact ret_v B hr hlk hP hS dX5_hearPacket_108 ((CI_S hI (fun x hx => hI.2.1 x (Or.inl hx))))
  have b67_0 : ∀ (ls : Array Slot) (ρ : Nat → Nat → Int32) (H : Heap) (locs : List Loc) (k67_3 : Nat), lv_has ls 4 [(0, .ref (E.2.1 + k)), (1, .int (nI na1)), (2, .ref (E.2.1 + ((k + 4) + 1 + 42 * na1))), (3, .ref (E.2.1 + k67_3))] → WP E ρ H → va_S (hA E) s.heap H locs → CI r (SA S ((k + 4) + 1 + 42 * na1) 0) ρ → hk k67_3 = 1 → 0 ≤ na1 → na1 ≤ 1 → W p l e (rmk 4 160) s m ([.ref (E.2.1 + k), .int (nI na1)] : List Value).toArray below meth c H locs 0 0 (MQ below (cV E (fun ρ1 => CI r S ρ1)) ([.ref (E.2.1 + k), .int (nI na1)] : List Value).toArray s 0 0 (hA E)) (F0 m 67 ls []) := by
    intro ls ρ H locs k67_3 hl hP hS hI hk67_3 tlna1 tuna1
    refine lv_aload_n hx hb dX5_hearPacket_67 rfl (lv_at hl 3 rfl) ?_
    refine get1 B hP hk67_3 1 (by decide) mw_199 rfl dX5_hearPacket_68 ?_
    refine call_i (cVt (k := (k67_3 + 2)) (av := []) (rest := []) B hP hS (d_X4_hearFirst l E ρ r (SA S ((k + 4) + 1 + 42 * na1) 0) (hSA hSS (lay5n h (show na1 < 2 by omega)) (by decide)) (k67_3 + 2) (lay1 hk67_3).2.1 hI) lk_RX5_266 (hrecv (ci := 4) B hP (hk_lt (c := 4) (lay1 hk67_3).2.1 (by decide)) (hcc4 _ _ (lay1 hk67_3).2.1) rfl) rfl rfl hl.1 (Nat.le_of_ble_eq_true rfl) ⟨Nat.le_of_ble_eq_true rfl, Nat.le_of_ble_eq_true rfl⟩ ⟨Nat.le_of_ble_eq_true rfl, Nat.le_of_ble_eq_true rfl⟩ dX5_hearPacket_71) hS (fun r70 ρ71 H locs q72 hP hS => ?_)
    obtain ⟨hI, i73⟩ := q72
    obtain ⟨j74, lj74, uj74, ej74⟩ := iR_nat (a := 0) (b := 1) i73
    refine lv_topi (fun z75 ez75 => ?_)
    obtain rfl : z75 = nI j74 := ez75.trans ej74
    refine lv_if_eq (tgt := 93) hx hb dX5_hearPacket_74 (by decide) (fun c76 => ?_) (fun c76 => ?_)
    · skip
      have n77 := (nI_eq (a := j74) (b := 0) (by omega) (by omega)).mp (show (nI j74 = nI 0) from c76)
      exact b93_0 ls ρ71 _ _ k67_3 (lv_sub hl [2, 3] rfl) hP hS hI hk67_3 (by omega) (by omega)
    · skip
      have n78 := mt (nI_eq (a := j74) (b := 0) (by omega) (by omega)).mpr (show ¬ (nI j74 = nI 0) from c76)
      refine lv_aload_n hx hb dX5_hearPacket_77 rfl (lv_at hl 0 rfl) ?_
      refine lv_dup hx hb dX5_hearPacket_78 rfl ?_
      refine get5 B hP h 9 (by decide) mw_389 rfl dX5_hearPacket_79 ?_
      refine lv_iconst (v := 1) hx hb dX5_hearPacket_82 (by decide) ?_
      refine lv_iadd hx hb dX5_hearPacket_83 ?_
      refine put5 B hP hS h 9 (by decide) mw_389 rfl rfl rfl (fs5_9 E k _ _) dX5_hearPacket_84 (fun H locs hP hS => ?_)
      obtain ⟨ρ79, e80⟩ : ∃ z, z = up ρ71 k 9 ((ρ71 k 9) + 1) := ⟨_, rfl⟩
      rw [← e80] at hP
      have hI : CI r (SA S ((k + 4) + 1 + 42 * na1) 0) ρ79 := by rw [e80]; exact CI_up hI (kind_lt h (by decide)) (SP_plain h rfl (by decide)) ⟨(fun z2 => absurd (Eq.trans (Eq.symm h) z2) (by decide)), (fun _ => by decide)⟩ (hSA hSS (lay5n h (show na1 < 2 by omega)) (by decide))
      refine lv_aload_n hx hb dX5_hearPacket_87 rfl (lv_at hl 0 rfl) ?_
      refine lv_iload_n hx hb dX5_hearPacket_88 rfl (lv_at hl 1 rfl) ?_
      refine lv_aload_n hx hb dX5_hearPacket_89 rfl (lv_at hl 3 rfl) ?_
      refine call_v (cVt (k := k) (av := [.int (nI na1), .ref (E.2.1 + k67_3)]) (rest := []) B hP hS (d_X5_passOn l E ρ79 r (SA S ((k + 4) + 1 + 42 * na1) 0) (hSA hSS (lay5n h (show na1 < 2 by omega)) (by decide)) k h na1 (by omega) (by omega) k67_3 hk67_3 hI) lk_RX5_269 (hrecv (ci := 5) B hP (hk_lt (c := 5) h (by decide)) (hcc5 _ _ h) rfl) rfl rfl hl.1 (Nat.le_of_ble_eq_true rfl) ⟨Nat.le_of_ble_eq_true rfl, Nat.le_of_ble_eq_true rfl⟩ ⟨Nat.le_of_ble_eq_true rfl, Nat.le_of_ble_eq_true rfl⟩ dX5_hearPacket_90) hS (fun ρ82 H locs q83 hP hS => ?_)
      have hI := q83
      exact b93_0 ls ρ82 _ _ k67_3 (lv_sub hl [2, 3] rfl) hP hS hI hk67_3 (by omega) (by omega)
  refine lv_aload_n hx hb dX5_hearPacket_0 rfl (lv_at hl 0 rfl) ?_
  refine get5 B hP h 3 (by decide) mw_377 rfl dX5_hearPacket_1 ?_
  refine lv_iload_n hx hb dX5_hearPacket_4 rfl (lv_at hl 1 rfl) ?_
  refine aldNn (j := na1) B hP (lay5 h).2.2.2.2.2.2.1 (lay5 h).2.2.2.2.2.2.2.1 rfl (by omega) dX5_hearPacket_5 ?_
  refine lv_astore_n (lv' := [(2, .ref (E.2.1 + ((k + 4) + 1 + 42 * na1))), (0, .ref (E.2.1 + k)), (1, .int (nI na1))]) hx hb dX5_hearPacket_6 rfl hl (by decide) rfl (fun ls hl => ?_)
  refine lv_aload_n hx hb dX5_hearPacket_7 rfl (lv_at hl 0 rfl) ?_
  refine get2 B hP (lay5n (n := na1) h (by omega)) 14 (by decide) mw_317 rfl dX5_hearPacket_8 ?_
  have i85 : iR (ρ ((k + 4) + 1 + 42 * na1) 14) 0 1 := CI_get hI (kind_lt (lay5n (n := na1) h (by omega)) (by decide)) (lay5n (n := na1) h (by omega)) rfl
  obtain ⟨j86, lj86, uj86, ej86⟩ := iR_nat (a := 0) (b := 1) i85
  refine lv_topi (fun z87 ez87 => ?_)
  obtain rfl : z87 = nI j86 := ez87.trans ej86
  refine lv_if_eq (tgt := 23) hx hb dX5_hearPacket_11 (by decide) (fun c88 => ?_) (fun c88 => ?_)
  · skip
    have n89 := (nI_eq (a := j86) (b := 0) (by omega) (by omega)).mp (show (nI j86 = nI 0) from c88)
    refine lv_aload_n hx hb dX5_hearPacket_23 rfl (lv_at hl 0 rfl) ?_
    refine lv_aload_n hx hb dX5_hearPacket_24 rfl (lv_at hl 0 rfl) ?_
    refine get2 B hP (lay5n (n := na1) h (by omega)) 15 (by decide) mw_320 rfl dX5_hearPacket_25 ?_
    refine call_q (cVt (k := ((k + 4) + 1 + 42 * na1)) (av := [.int (ρ ((k + 4) + 1 + 42 * na1) 15)]) (rest := []) B hP hS (d_X2_linkAt l E ρ r (SA S ((k + 4) + 1 + 42 * na1) 0) (hSA hSS (lay5n h (show na1 < 2 by omega)) (by decide)) ((k + 4) + 1 + 42 * na1) (lay5n (n := na1) h (by omega)) (ρ ((k + 4) + 1 + 42 * na1) 15) hI) lk_RX5_64 (hrecv (ci := 2) B hP (hk_lt (c := 2) (lay5n (n := na1) h (by omega)) (by decide)) (hcc2 _ _ (lay5n (n := na1) h (by omega))) rfl) rfl rfl hl.1 (Nat.le_of_ble_eq_true rfl) ⟨Nat.le_of_ble_eq_true rfl, Nat.le_of_ble_eq_true rfl⟩ ⟨Nat.le_of_ble_eq_true rfl, Nat.le_of_ble_eq_true rfl⟩ dX5_hearPacket_28) hS (fun r90 ρ91 H locs q92 hP hS => ?_)
    obtain ⟨rfl, hI, q92⟩ := q92
    rcases q92 with rfl | ⟨j93, k94, rfl, hk94, ej93, uj93, gj93⟩
    · skip
      refine W.eq (g2 := F0 m 31 ls [.null]) rfl ?_
      refine lv_astore_nN (lv' := [(3, .null), (2, .ref (E.2.1 + ((k + 4) + 1 + 42 * na1))), (0, .ref (E.2.1 + k)), (1, .int (nI na1))]) hx hb dX5_hearPacket_31 rfl hl (by decide) rfl (fun ls hl => ?_)
      refine lv_aload_nN hx hb dX5_hearPacket_32 rfl (lv_at hl 0 rfl) ?_
      refine lv_ifnullN (tgt := 43) hx hb dX5_hearPacket_33 (by decide) ?_
      exact ret_v B hr hlk hP hS dX5_hearPacket_43 ((CI_S hI (fun x hx => hI.2.1 x (Or.inl hx))))
    · skip
      refine W.eq (g2 := F0 m 31 ls [.ref (E.2.1 + k94)]) rfl ?_
      have i95 : iR (ρ ((k + 4) + 1 + 42 * na1) 8) 1 4 := iR_w gj93 (by omega) (by omega)
      refine lv_astore_n (lv' := [(3, .ref (E.2.1 + k94)), (2, .ref (E.2.1 + ((k + 4) + 1 + 42 * na1))), (0, .ref (E.2.1 + k)), (1, .int (nI na1))]) hx hb dX5_hearPacket_31 rfl hl (by decide) rfl (fun ls hl => ?_)
      refine lv_aload_n hx hb dX5_hearPacket_32 rfl (lv_at hl 0 rfl) ?_
      refine lv_ifnull hx hb dX5_hearPacket_33 ?_
      refine lv_aload_n hx hb dX5_hearPacket_36 rfl (lv_at hl 1 rfl) ?_
      refine get2 B hP (lay5n (n := na1) h (by omega)) 19 (by decide) mw_329 rfl dX5_hearPacket_37 ?_
      have i96 : iR (ρ ((k + 4) + 1 + 42 * na1) 19) 0 1 := CI_get hI (kind_lt (lay5n (n := na1) h (by omega)) (by decide)) (lay5n (n := na1) h (by omega)) rfl
      obtain ⟨j97, lj97, uj97, ej97⟩ := iR_nat (a := 0) (b := 1) i96
      refine lv_topi (fun z98 ez98 => ?_)
      obtain rfl : z98 = nI j97 := ez98.trans ej97
      refine lv_if_ne (tgt := 44) hx hb dX5_hearPacket_40 (by decide) (fun c99 => ?_) (fun c99 => ?_)
      · skip
        have n100 := mt (nI_eq (a := j97) (b := 0) (by omega) (by omega)).mpr (show ¬ (nI j97 = nI 0) from c99)
        refine lv_aload_n hx hb dX5_hearPacket_44 rfl (lv_at hl 0 rfl) ?_
        refine get1 B hP hk94 6 (by decide) mw_216 rfl dX5_hearPacket_45 ?_
        have i101 : iR (ρ k94 6) 0 1 := CI_get hI (kind_lt hk94 (by decide)) hk94 rfl
        obtain ⟨j102, lj102, uj102, ej102⟩ := iR_nat (a := 0) (b := 1) i101
        refine lv_topi (fun z103 ez103 => ?_)
        obtain rfl : z103 = nI j102 := ez103.trans ej102
        refine lv_if_eq (tgt := 67) hx hb dX5_hearPacket_48 (by decide) (fun c104 => ?_) (fun c104 => ?_)
        · skip
          have n105 := (nI_eq (a := j102) (b := 0) (by omega) (by omega)).mp (show (nI j102 = nI 0) from c104)
          exact b67_0 ls ρ _ _ k94 (lv_sub hl [2, 3, 1, 0] rfl) hP hS hI hk94 (by omega) (by omega)
        · skip
          have n106 := mt (nI_eq (a := j102) (b := 0) (by omega) (by omega)).mpr (show ¬ (nI j102 = nI 0) from c104)
          refine lv_aload_n hx hb dX5_hearPacket_51 rfl (lv_at hl 0 rfl) ?_
          refine get1 B hP hk94 2 (by decide) mw_202 rfl dX5_hearPacket_52 ?_
          refine lv_aload_n hx hb dX5_hearPacket_55 rfl (lv_at hl 2 rfl) ?_
          refine get5 B hP h 5 (by decide) mw_381 rfl dX5_hearPacket_56 ?_
          refine call_v (cVt (k := (k94 + 5)) (av := [.int (ρ k 5)]) (rest := []) B hP hS (d_X4_takeFirst l E ρ r (SA S ((k + 4) + 1 + 42 * na1) 0) (hSA hSS (lay5n h (show na1 < 2 by omega)) (by decide)) (k94 + 5) (lay1 hk94).2.2.1 (ρ k 5) hI) lk_RX5_263 (hrecv (ci := 4) B hP (hk_lt (c := 4) (lay1 hk94).2.2.1 (by decide)) (hcc4 _ _ (lay1 hk94).2.2.1) rfl) rfl rfl hl.1 (Nat.le_of_ble_eq_true rfl) ⟨Nat.le_of_ble_eq_true rfl, Nat.le_of_ble_eq_true rfl⟩ ⟨Nat.le_of_ble_eq_true rfl, Nat.le_of_ble_eq_true rfl⟩ dX5_hearPacket_59) hS (fun ρ108 H locs q109 hP hS => ?_)
          have hI := q109
          refine lv_aload_n hx hb dX5_hearPacket_62 rfl (lv_at hl 0 rfl) ?_
          refine lv_iconst (v := 0) hx hb dX5_hearPacket_63 (by decide) ?_
          refine put1 B hP hS hk94 6 (by decide) mw_216 rfl rfl rfl (fs1_6 E k94 _ _) dX5_hearPacket_64 (fun H locs hP hS => ?_)
          obtain ⟨ρ111, e112⟩ : ∃ z, z = up ρ108 k94 6 0 := ⟨_, rfl⟩
          rw [← e112] at hP
          have hI : CI r (SA S ((k + 4) + 1 + 42 * na1) 0) ρ111 := by rw [e112]; exact CI_up hI (kind_lt hk94 (by decide)) (SP_rng hk94 rfl (by decide) (iR_w (a := 0) (b := 0) (show iR 0 (0) (0) from ⟨by decide, by decide⟩) (by decide) (by decide))) ⟨(fun z2 => absurd (Eq.trans (Eq.symm hk94) z2) (by decide)), (fun z2 => absurd (Eq.trans (Eq.symm hk94) z2) (by decide))⟩ (hSA hSS (lay5n h (show na1 < 2 by omega)) (by decide))
          exact b67_0 ls ρ111 _ _ k94 (lv_sub hl [2, 3, 1, 0] rfl) hP hS hI hk94 (by omega) (by omega)
      · skip
        have n113 := (nI_eq (a := j97) (b := 0) (by omega) (by omega)).mp (show (nI j97 = nI 0) from c99)
        exact ret_v B hr hlk hP hS dX5_hearPacket_43 ((CI_S hI (fun x hx => hI.2.1 x (Or.inl hx))))
  · skip
    have n114 := mt (nI_eq (a := j86) (b := 0) (by omega) (by omega)).mpr (show ¬ (nI j86 = nI 0) from c88)
    refine lv_aload_n hx hb dX5_hearPacket_14 rfl (lv_at hl 0 rfl) ?_
    refine lv_aload_n hx hb dX5_hearPacket_15 rfl (lv_at hl 1 rfl) ?_
    refine get5 B hP h 8 (by decide) mw_387 rfl dX5_hearPacket_16 ?_
    refine call_v (cVt (k := ((k + 4) + 1 + 42 * na1)) (av := [.int (ρ k 8)]) (rest := []) B hP hS (d_X2_endCastTurn l E ρ r S hSS ((k + 4) + 1 + 42 * na1) (lay5n (n := na1) h (by omega)) (ρ k 8) (CI_S hI (fun y hy => hy.elim (fun q => hI.2.1 y (Or.inl q)) (fun q => by rw [q]; exact RC1.mpr (RC0.mp (hI.2.1 (((k + 4) + 1 + 42 * na1), 0) (Or.inr rfl)) (ej86.trans (congrArg nI (show j86 = 1 by omega))))))) hne) lk_RX5_257 (hrecv (ci := 2) B hP (hk_lt (c := 2) (lay5n (n := na1) h (by omega)) (by decide)) (hcc2 _ _ (lay5n (n := na1) h (by omega))) rfl) rfl rfl hl.1 (Nat.le_of_ble_eq_true rfl) ⟨Nat.le_of_ble_eq_true rfl, Nat.le_of_ble_eq_true rfl⟩ ⟨Nat.le_of_ble_eq_true rfl, Nat.le_of_ble_eq_true rfl⟩ dX5_hearPacket_19) hS (fun ρ116 H locs q117 hP hS => ?_)
    have hI := q117
    exact ret_v B hr hlk hP hS dX5_hearPacket_22 (hI)

set_option maxHeartbeats 4000000 in
set_option maxRecDepth 100000 in
theorem d_X5_tuneAnswer (l : Launch) (E : hE) (ρ r : Nat → Nat → Int32) (S : Nat × Nat → Prop) (hSS : SK S) (k : Nat) (h : hk k = 5) (na1 : Nat) (lna1 : 0 ≤ na1) (una1 : na1 ≤ 1) (hI : CI r S ρ) : Met l yX5_tuneAnswer (.code yX5_tuneAnswer cX5_tuneAnswer 4 none :: gw_all) (rmk 4 160) (cPre E ρ [.ref (E.2.1 + k), .int (nI na1)]) (cV E (fun ρ1 => CI r S ρ1)) 0 0 (hA E) := by
  refine ent (own := RX5) (by decide) rfl (Nat.le_of_ble_eq_true rfl) ?_
  intro p e s m below meth c ls B hr hlk hl hP hS
  have hx := B.1.1
  have hb := B.1.2.1
  have hown := B.1.2.2.2.1
  have hts := B.1.2.2.2.2
  have hl : lv_has ls 4 [(0, .ref (E.2.1 + k)), (1, .int (nI na1))] := hl
  refine lv_aload_n hx hb dX5_tuneAnswer_0 rfl (lv_at hl 0 rfl) ?_
  refine get5 B hP h 3 (by decide) mw_377 rfl dX5_tuneAnswer_1 ?_
  refine lv_iload_n hx hb dX5_tuneAnswer_4 rfl (lv_at hl 1 rfl) ?_
  refine aldNn (j := na1) B hP (lay5 h).2.2.2.2.2.2.1 (lay5 h).2.2.2.2.2.2.2.1 rfl (by omega) dX5_tuneAnswer_5 ?_
  refine lv_astore_n (lv' := [(2, .ref (E.2.1 + ((k + 4) + 1 + 42 * na1))), (0, .ref (E.2.1 + k)), (1, .int (nI na1))]) hx hb dX5_tuneAnswer_6 rfl hl (by decide) rfl (fun ls hl => ?_)
  refine lv_aload_n hx hb dX5_tuneAnswer_7 rfl (lv_at hl 0 rfl) ?_
  refine lv_aload_n hx hb dX5_tuneAnswer_8 rfl (lv_at hl 0 rfl) ?_
  refine get2 B hP (lay5n (n := na1) h (by omega)) 15 (by decide) mw_320 rfl dX5_tuneAnswer_9 ?_
  refine call_q (cVt (k := ((k + 4) + 1 + 42 * na1)) (av := [.int (ρ ((k + 4) + 1 + 42 * na1) 15)]) (rest := []) B hP hS (d_X2_linkAt l E ρ r S hSS ((k + 4) + 1 + 42 * na1) (lay5n (n := na1) h (by omega)) (ρ ((k + 4) + 1 + 42 * na1) 15) hI) lk_RX5_64 (hrecv (ci := 2) B hP (hk_lt (c := 2) (lay5n (n := na1) h (by omega)) (by decide)) (hcc2 _ _ (lay5n (n := na1) h (by omega))) rfl) rfl rfl hl.1 (Nat.le_of_ble_eq_true rfl) ⟨Nat.le_of_ble_eq_true rfl, Nat.le_of_ble_eq_true rfl⟩ ⟨Nat.le_of_ble_eq_true rfl, Nat.le_of_ble_eq_true rfl⟩ dX5_tuneAnswer_12) hS (fun r29 ρ30 H locs q31 hP hS => ?_)
  obtain ⟨rfl, hI, q31⟩ := q31
  rcases q31 with rfl | ⟨j32, k33, rfl, hk33, ej32, uj32, gj32⟩
  · skip
    refine W.eq (g2 := F0 m 15 ls [.null]) rfl ?_
    refine lv_astore_nN (lv' := [(3, .null), (2, .ref (E.2.1 + ((k + 4) + 1 + 42 * na1))), (0, .ref (E.2.1 + k)), (1, .int (nI na1))]) hx hb dX5_tuneAnswer_15 rfl hl (by decide) rfl (fun ls hl => ?_)
    refine lv_aload_n hx hb dX5_tuneAnswer_16 rfl (lv_at hl 1 rfl) ?_
    refine lv_iconst (v := (-1)) hx hb dX5_tuneAnswer_17 (by decide) ?_
    refine put2 B hP hS (lay5n (n := na1) h (by omega)) 17 (by decide) mw_325 rfl rfl rfl (fs2_17 E ((k + 4) + 1 + 42 * na1) _ _) dX5_tuneAnswer_18 (fun H locs hP hS => ?_)
    obtain ⟨ρ34, e35⟩ : ∃ z, z = up ρ ((k + 4) + 1 + 42 * na1) 17 (-1) := ⟨_, rfl⟩
    rw [← e35] at hP
    have hI : CI r S ρ34 := by rw [e35]; exact CI_up hI (kind_lt (lay5n (n := na1) h (by omega)) (by decide)) (SP_plain (lay5n (n := na1) h (by omega)) rfl (by decide)) ⟨(fun _ => ⟨by decide, by decide, by decide⟩), (fun z2 => absurd (Eq.trans (Eq.symm (lay5n (n := na1) h (by omega))) z2) (by decide))⟩ hSS
    refine lv_aload_nN hx hb dX5_tuneAnswer_21 rfl (lv_at hl 0 rfl) ?_
    refine lv_ifnullN (tgt := 65) hx hb dX5_tuneAnswer_22 (by decide) ?_
    exact ret_v B hr hlk hP hS dX5_tuneAnswer_65 (hI)
  · skip
    refine W.eq (g2 := F0 m 15 ls [.ref (E.2.1 + k33)]) rfl ?_
    have i36 : iR (ρ ((k + 4) + 1 + 42 * na1) 8) 1 4 := iR_w gj32 (by omega) (by omega)
    refine lv_astore_n (lv' := [(3, .ref (E.2.1 + k33)), (2, .ref (E.2.1 + ((k + 4) + 1 + 42 * na1))), (0, .ref (E.2.1 + k)), (1, .int (nI na1))]) hx hb dX5_tuneAnswer_15 rfl hl (by decide) rfl (fun ls hl => ?_)
    refine lv_aload_n hx hb dX5_tuneAnswer_16 rfl (lv_at hl 1 rfl) ?_
    refine lv_iconst (v := (-1)) hx hb dX5_tuneAnswer_17 (by decide) ?_
    refine put2 B hP hS (lay5n (n := na1) h (by omega)) 17 (by decide) mw_325 rfl rfl rfl (fs2_17 E ((k + 4) + 1 + 42 * na1) _ _) dX5_tuneAnswer_18 (fun H locs hP hS => ?_)
    obtain ⟨ρ37, e38⟩ : ∃ z, z = up ρ ((k + 4) + 1 + 42 * na1) 17 (-1) := ⟨_, rfl⟩
    rw [← e38] at hP
    have hI : CI r S ρ37 := by rw [e38]; exact CI_up hI (kind_lt (lay5n (n := na1) h (by omega)) (by decide)) (SP_plain (lay5n (n := na1) h (by omega)) rfl (by decide)) ⟨(fun _ => ⟨by decide, by decide, by decide⟩), (fun z2 => absurd (Eq.trans (Eq.symm (lay5n (n := na1) h (by omega))) z2) (by decide))⟩ hSS
    refine lv_aload_n hx hb dX5_tuneAnswer_21 rfl (lv_at hl 0 rfl) ?_
    refine lv_ifnull hx hb dX5_tuneAnswer_22 ?_
    refine lv_aload_n hx hb dX5_tuneAnswer_25 rfl (lv_at hl 1 rfl) ?_
    refine get2 B hP (lay5n (n := na1) h (by omega)) 19 (by decide) mw_329 rfl dX5_tuneAnswer_26 ?_
    have i39 : iR (ρ37 ((k + 4) + 1 + 42 * na1) 19) 0 1 := CI_get hI (kind_lt (lay5n (n := na1) h (by omega)) (by decide)) (lay5n (n := na1) h (by omega)) rfl
    obtain ⟨j40, lj40, uj40, ej40⟩ := iR_nat (a := 0) (b := 1) i39
    refine lv_topi (fun z41 ez41 => ?_)
    obtain rfl : z41 = nI j40 := ez41.trans ej40
    refine lv_if_eq (tgt := 65) hx hb dX5_tuneAnswer_29 (by decide) (fun c42 => ?_) (fun c42 => ?_)
    · skip
      have n43 := (nI_eq (a := j40) (b := 0) (by omega) (by omega)).mp (show (nI j40 = nI 0) from c42)
      exact ret_v B hr hlk hP hS dX5_tuneAnswer_65 (hI)
    · skip
      have n44 := mt (nI_eq (a := j40) (b := 0) (by omega) (by omega)).mpr (show ¬ (nI j40 = nI 0) from c42)
      refine lv_aload_n hx hb dX5_tuneAnswer_32 rfl (lv_at hl 1 rfl) ?_
      refine lv_aload_n hx hb dX5_tuneAnswer_33 rfl (lv_at hl 2 rfl) ?_
      refine lv_iload_n hx hb dX5_tuneAnswer_34 rfl (lv_at hl 3 rfl) ?_
      refine lv_aload_n hx hb dX5_tuneAnswer_35 rfl (lv_at hl 2 rfl) ?_
      refine get5 B hP h 5 (by decide) mw_381 rfl dX5_tuneAnswer_36 ?_
      refine lv_iconst (v := 1) hx hb dX5_tuneAnswer_39 (by decide) ?_
      refine lv_iadd hx hb dX5_tuneAnswer_40 ?_
      refine call_i (cVt (k := k) (av := [.int (nI na1), .int ((ρ37 k 5) + 1)]) (rest := [.ref (E.2.1 + ((k + 4) + 1 + 42 * na1))]) B hP hS (d_X5_hopIn l E ρ37 r S hSS k h na1 (by omega) (by omega) ((ρ37 k 5) + 1) hI) lk_RX5_98 (hrecv (ci := 5) B hP (hk_lt (c := 5) h (by decide)) (hcc5 _ _ h) rfl) rfl rfl hl.1 (Nat.le_of_ble_eq_true rfl) ⟨Nat.le_of_ble_eq_true rfl, Nat.le_of_ble_eq_true rfl⟩ ⟨Nat.le_of_ble_eq_true rfl, Nat.le_of_ble_eq_true rfl⟩ dX5_tuneAnswer_41) hS (fun r45 ρ46 H locs q47 hP hS => ?_)
      obtain ⟨rfl, hI⟩ := q47
      refine put2 B hP hS (lay5n (n := na1) h (by omega)) 16 (by decide) mw_323 rfl rfl rfl (fs2_16 E ((k + 4) + 1 + 42 * na1) _ _) dX5_tuneAnswer_44 (fun H locs hP hS => ?_)
      obtain ⟨ρ49, e50⟩ : ∃ z, z = up ρ37 ((k + 4) + 1 + 42 * na1) 16 r45 := ⟨_, rfl⟩
      rw [← e50] at hP
      have hI : CI r S ρ49 := by rw [e50]; exact CI_up hI (kind_lt (lay5n (n := na1) h (by omega)) (by decide)) (SP_plain (lay5n (n := na1) h (by omega)) rfl (by decide)) ⟨(fun _ => ⟨by decide, by decide, by decide⟩), (fun z2 => absurd (Eq.trans (Eq.symm (lay5n (n := na1) h (by omega))) z2) (by decide))⟩ hSS
      refine lv_aload_n hx hb dX5_tuneAnswer_47 rfl (lv_at hl 1 rfl) ?_
      refine lv_aload_n hx hb dX5_tuneAnswer_48 rfl (lv_at hl 1 rfl) ?_
      refine get2 B hP (lay5n (n := na1) h (by omega)) 16 (by decide) mw_323 (v := .int r45) (show some (Value.int (ρ49 ((k + 4) + 1 + 42 * na1) 16)) = some (Value.int r45) from congrArg (fun z => some (Value.int z)) (by rw [e50]; exact up_get_at)) dX5_tuneAnswer_49 ?_
      refine lv_aload_n hx hb dX5_tuneAnswer_52 rfl (lv_at hl 0 rfl) ?_
      refine get1 B hP hk33 0 (by decide) mw_194 rfl dX5_tuneAnswer_53 ?_
      refine get3 B hP (lay1 hk33).1 0 (by decide) mw_94 rfl dX5_tuneAnswer_56 ?_
      refine call_i (cN (av := [.int r45, .int (ρ49 (k33 + 1) 0)]) (rest := [.ref (E.2.1 + ((k + 4) + 1 + 42 * na1))]) B hP hS (d_X6_byMap l E ρ49 r S hSS r45 (ρ49 (k33 + 1) 0) hI) lk_RX5_101 rfl rfl hl.1 (Nat.le_of_ble_eq_true rfl) ⟨Nat.le_of_ble_eq_true rfl, Nat.le_of_ble_eq_true rfl⟩ ⟨Nat.le_of_ble_eq_true rfl, Nat.le_of_ble_eq_true rfl⟩ dX5_tuneAnswer_59) hS (fun r51 ρ52 H locs q53 hP hS => ?_)
      obtain ⟨rfl, hI⟩ := q53
      refine put2 B hP hS (lay5n (n := na1) h (by omega)) 17 (by decide) mw_325 rfl rfl rfl (fs2_17 E ((k + 4) + 1 + 42 * na1) _ _) dX5_tuneAnswer_62 (fun H locs hP hS => ?_)
      obtain ⟨ρ55, e56⟩ : ∃ z, z = up ρ49 ((k + 4) + 1 + 42 * na1) 17 r51 := ⟨_, rfl⟩
      rw [← e56] at hP
      have hI : CI r S ρ55 := by rw [e56]; exact CI_up hI (kind_lt (lay5n (n := na1) h (by omega)) (by decide)) (SP_plain (lay5n (n := na1) h (by omega)) rfl (by decide)) ⟨(fun _ => ⟨by decide, by decide, by decide⟩), (fun z2 => absurd (Eq.trans (Eq.symm (lay5n (n := na1) h (by omega))) z2) (by decide))⟩ hSS
      exact ret_v B hr hlk hP hS dX5_tuneAnswer_65 (hI)

theorem lk_RX5_294 : LkV RX5 294 RX2 yX2_tallyAnswered cX2_tallyAnswered 1 none 0 := ⟨⟨mw_817, mw_818, mw_819, mw_54, mw_820⟩, by decide +kernel⟩
theorem lk_RX5_303 : LkV RX5 303 RX0 yX0_answer cX0_answer 1 none 0 := ⟨⟨mw_821, mw_822, mw_823, mw_58, mw_824⟩, by decide +kernel⟩
set_option maxHeartbeats 4000000 in
set_option maxRecDepth 100000 in
theorem d_X5_hearAnswer (l : Launch) (E : hE) (ρ r : Nat → Nat → Int32) (S : Nat × Nat → Prop) (hSS : SK S) (k : Nat) (h : hk k = 5) (k1 : Nat) (h1 : hk k1 = 2) (k2 : Nat) (h2 : hk k2 = 1) (hI : CI r S ρ) : Met l yX5_hearAnswer (.code yX5_hearAnswer cX5_hearAnswer 3 none :: gw_all) (rmk 3 120) (cPre E ρ [.ref (E.2.1 + k), .ref (E.2.1 + k1), .ref (E.2.1 + k2)]) (cV E (fun ρ1 => CI r S ρ1)) 0 0 (hA E) := by
  refine ent (own := RX5) (by decide) rfl (Nat.le_of_ble_eq_true rfl) ?_
  intro p e s m below meth c ls B hr hlk hl hP hS
  have hx := B.1.1
  have hb := B.1.2.1
  have hown := B.1.2.2.2.1
  have hts := B.1.2.2.2.2
  have hl : lv_has ls 3 [(0, .ref (E.2.1 + k)), (1, .ref (E.2.1 + k1)), (2, .ref (E.2.1 + k2))] := hl
  have b64_0 : ∀ (ls : Array Slot) (ρ : Nat → Nat → Int32) (H : Heap) (locs : List Loc) , lv_has ls 3 [(2, .ref (E.2.1 + k2))] → WP E ρ H → va_S (hA E) s.heap H locs → CI r S ρ → W p l e (rmk 3 120) s m ([.ref (E.2.1 + k), .ref (E.2.1 + k1), .ref (E.2.1 + k2)] : List Value).toArray below meth c H locs 0 0 (MQ below (cV E (fun ρ1 => CI r S ρ1)) ([.ref (E.2.1 + k), .ref (E.2.1 + k1), .ref (E.2.1 + k2)] : List Value).toArray s 0 0 (hA E)) (F0 m 64 ls [.int 0, .ref (E.2.1 + k2)]) := by
    intro ls ρ H locs  hl hP hS hI
    refine put1 B hP hS h2 6 (by decide) mw_216 rfl rfl rfl (fs1_6 E k2 _ _) dX5_hearAnswer_64 (fun H locs hP hS => ?_)
    obtain ⟨ρ46, e47⟩ : ∃ z, z = up ρ k2 6 0 := ⟨_, rfl⟩
    rw [← e47] at hP
    have hI : CI r S ρ46 := by rw [e47]; exact CI_up hI (kind_lt h2 (by decide)) (SP_rng h2 rfl (by decide) (iR_w (a := 0) (b := 0) (show iR 0 (0) (0) from ⟨by decide, by decide⟩) (by decide) (by decide))) ⟨(fun z2 => absurd (Eq.trans (Eq.symm h2) z2) (by decide)), (fun z2 => absurd (Eq.trans (Eq.symm h2) z2) (by decide))⟩ hSS
    refine lv_aload_n hx hb dX5_hearAnswer_67 rfl (lv_at hl 0 rfl) ?_
    refine get1 B hP h2 3 (by decide) mw_206 rfl dX5_hearAnswer_68 ?_
    refine call_v (cVt (k := (k2 + 8)) (av := []) (rest := []) B hP hS (d_X0_answer l E ρ46 r S hSS (k2 + 8) (lay1 h2).2.2.2 hI) lk_RX5_303 (hrecv (ci := 0) B hP (hk_lt (c := 0) (lay1 h2).2.2.2 (by decide)) (hcc0 _ _ (lay1 h2).2.2.2) rfl) rfl rfl hl.1 (Nat.le_of_ble_eq_true rfl) ⟨Nat.le_of_ble_eq_true rfl, Nat.le_of_ble_eq_true rfl⟩ ⟨Nat.le_of_ble_eq_true rfl, Nat.le_of_ble_eq_true rfl⟩ dX5_hearAnswer_71) hS (fun ρ49 H locs q50 hP hS => ?_)
    have hI := q50
    refine lv_aload_n hx hb dX5_hearAnswer_74 rfl (lv_at hl 0 rfl) ?_
    refine lv_iconst (v := 1) hx hb dX5_hearAnswer_75 (by decide) ?_
    refine put1 B hP hS h2 5 (by decide) mw_214 rfl rfl rfl (fs1_5 E k2 _ _) dX5_hearAnswer_76 (fun H locs hP hS => ?_)
    obtain ⟨ρ52, e53⟩ : ∃ z, z = up ρ49 k2 5 1 := ⟨_, rfl⟩
    rw [← e53] at hP
    have hI : CI r S ρ52 := by rw [e53]; exact CI_up hI (kind_lt h2 (by decide)) (SP_rng h2 rfl (by decide) (iR_w (a := 1) (b := 1) (show iR 1 (1) (1) from ⟨by decide, by decide⟩) (by decide) (by decide))) ⟨(fun z2 => absurd (Eq.trans (Eq.symm h2) z2) (by decide)), (fun z2 => absurd (Eq.trans (Eq.symm h2) z2) (by decide))⟩ hSS
    exact ret_v B hr hlk hP hS dX5_hearAnswer_79 (hI)
  have b64_1 : ∀ (ls : Array Slot) (ρ : Nat → Nat → Int32) (H : Heap) (locs : List Loc) , lv_has ls 3 [(2, .ref (E.2.1 + k2))] → WP E ρ H → va_S (hA E) s.heap H locs → CI r S ρ → W p l e (rmk 3 120) s m ([.ref (E.2.1 + k), .ref (E.2.1 + k1), .ref (E.2.1 + k2)] : List Value).toArray below meth c H locs 0 0 (MQ below (cV E (fun ρ1 => CI r S ρ1)) ([.ref (E.2.1 + k), .ref (E.2.1 + k1), .ref (E.2.1 + k2)] : List Value).toArray s 0 0 (hA E)) (F0 m 64 ls [.int 1, .ref (E.2.1 + k2)]) := by
    intro ls ρ H locs  hl hP hS hI
    refine put1 B hP hS h2 6 (by decide) mw_216 rfl rfl rfl (fs1_6 E k2 _ _) dX5_hearAnswer_64 (fun H locs hP hS => ?_)
    obtain ⟨ρ54, e55⟩ : ∃ z, z = up ρ k2 6 1 := ⟨_, rfl⟩
    rw [← e55] at hP
    have hI : CI r S ρ54 := by rw [e55]; exact CI_up hI (kind_lt h2 (by decide)) (SP_rng h2 rfl (by decide) (iR_w (a := 1) (b := 1) (show iR 1 (1) (1) from ⟨by decide, by decide⟩) (by decide) (by decide))) ⟨(fun z2 => absurd (Eq.trans (Eq.symm h2) z2) (by decide)), (fun z2 => absurd (Eq.trans (Eq.symm h2) z2) (by decide))⟩ hSS
    refine lv_aload_n hx hb dX5_hearAnswer_67 rfl (lv_at hl 0 rfl) ?_
    refine get1 B hP h2 3 (by decide) mw_206 rfl dX5_hearAnswer_68 ?_
    refine call_v (cVt (k := (k2 + 8)) (av := []) (rest := []) B hP hS (d_X0_answer l E ρ54 r S hSS (k2 + 8) (lay1 h2).2.2.2 hI) lk_RX5_303 (hrecv (ci := 0) B hP (hk_lt (c := 0) (lay1 h2).2.2.2 (by decide)) (hcc0 _ _ (lay1 h2).2.2.2) rfl) rfl rfl hl.1 (Nat.le_of_ble_eq_true rfl) ⟨Nat.le_of_ble_eq_true rfl, Nat.le_of_ble_eq_true rfl⟩ ⟨Nat.le_of_ble_eq_true rfl, Nat.le_of_ble_eq_true rfl⟩ dX5_hearAnswer_71) hS (fun ρ57 H locs q58 hP hS => ?_)
    have hI := q58
    refine lv_aload_n hx hb dX5_hearAnswer_74 rfl (lv_at hl 0 rfl) ?_
    refine lv_iconst (v := 1) hx hb dX5_hearAnswer_75 (by decide) ?_
    refine put1 B hP hS h2 5 (by decide) mw_214 rfl rfl rfl (fs1_5 E k2 _ _) dX5_hearAnswer_76 (fun H locs hP hS => ?_)
    obtain ⟨ρ60, e61⟩ : ∃ z, z = up ρ57 k2 5 1 := ⟨_, rfl⟩
    rw [← e61] at hP
    have hI : CI r S ρ60 := by rw [e61]; exact CI_up hI (kind_lt h2 (by decide)) (SP_rng h2 rfl (by decide) (iR_w (a := 1) (b := 1) (show iR 1 (1) (1) from ⟨by decide, by decide⟩) (by decide) (by decide))) ⟨(fun z2 => absurd (Eq.trans (Eq.symm h2) z2) (by decide)), (fun z2 => absurd (Eq.trans (Eq.symm h2) z2) (by decide))⟩ hSS
    exact ret_v B hr hlk hP hS dX5_hearAnswer_79 (hI)
  have b48_0 : ∀ (ls : Array Slot) (ρ : Nat → Nat → Int32) (H : Heap) (locs : List Loc) , lv_has ls 3 [(2, .ref (E.2.1 + k2))] → WP E ρ H → va_S (hA E) s.heap H locs → CI r S ρ → W p l e (rmk 3 120) s m ([.ref (E.2.1 + k), .ref (E.2.1 + k1), .ref (E.2.1 + k2)] : List Value).toArray below meth c H locs 0 0 (MQ below (cV E (fun ρ1 => CI r S ρ1)) ([.ref (E.2.1 + k), .ref (E.2.1 + k1), .ref (E.2.1 + k2)] : List Value).toArray s 0 0 (hA E)) (F0 m 48 ls []) := by
    intro ls ρ H locs  hl hP hS hI
    refine lv_aload_n hx hb dX5_hearAnswer_48 rfl (lv_at hl 0 rfl) ?_
    refine lv_aload_n hx hb dX5_hearAnswer_49 rfl (lv_at hl 0 rfl) ?_
    refine get1 B hP h2 2 (by decide) mw_202 rfl dX5_hearAnswer_50 ?_
    refine get4 B hP (lay1 h2).2.2.1 2 (by decide) mw_131 rfl dX5_hearAnswer_53 ?_
    have i62 : iR (ρ (k2 + 5) 2) 0 8 := CI_get hI (kind_lt (lay1 h2).2.2.1 (by decide)) (lay1 h2).2.2.1 rfl
    obtain ⟨j63, lj63, uj63, ej63⟩ := iR_nat (a := 0) (b := 8) i62
    refine lv_topi (fun z64 ez64 => ?_)
    obtain rfl : z64 = nI j63 := ez64.trans ej63
    refine lv_if_le (tgt := 63) hx hb dX5_hearAnswer_56 (by decide) (fun c65 => ?_) (fun c65 => ?_)
    · skip
      have n66 := mt (nx_lt (a := 0) (b := j63) (by omega) (by omega)).mpr (show ¬ (nI 0 < nI j63) from (Int32.not_lt.mpr c65))
      refine lv_iconst (v := 0) hx hb dX5_hearAnswer_63 (by decide) ?_
      exact b64_0 ls ρ _ _  (lv_sub hl [0] rfl) hP hS hI 
    · skip
      have n67 := (nx_lt (a := 0) (b := j63) (by omega) (by omega)).mp (show (nI 0 < nI j63) from (Int32.not_le.mp c65))
      refine lv_iconst (v := 1) hx hb dX5_hearAnswer_59 (by decide) ?_
      refine lv_goto (tgt := 64) hx hb dX5_hearAnswer_60 (by decide) ?_
      exact b64_1 ls ρ _ _  (lv_sub hl [0] rfl) hP hS hI 
  refine lv_aload_n hx hb dX5_hearAnswer_0 rfl (lv_at hl 1 rfl) ?_
  refine call_v (cVt (k := k1) (av := []) (rest := []) B hP hS (d_X2_tallyAnswered l E ρ r S hSS k1 h1 hI) lk_RX5_294 (hrecv (ci := 2) B hP (hk_lt (c := 2) h1 (by decide)) (hcc2 _ _ h1) rfl) rfl rfl hl.1 (Nat.le_of_ble_eq_true rfl) ⟨Nat.le_of_ble_eq_true rfl, Nat.le_of_ble_eq_true rfl⟩ ⟨Nat.le_of_ble_eq_true rfl, Nat.le_of_ble_eq_true rfl⟩ dX5_hearAnswer_1) hS (fun ρ69 H locs q70 hP hS => ?_)
  have hI := q70
  refine lv_aload_n hx hb dX5_hearAnswer_4 rfl (lv_at hl 2 rfl) ?_
  refine lv_iconst (v := 0) hx hb dX5_hearAnswer_5 (by decide) ?_
  refine put1 B hP hS h2 15 (by decide) mw_237 rfl rfl rfl (fs1_15 E k2 _ _) dX5_hearAnswer_6 (fun H locs hP hS => ?_)
  obtain ⟨ρ72, e73⟩ : ∃ z, z = up ρ69 k2 15 0 := ⟨_, rfl⟩
  rw [← e73] at hP
  have hI : CI r S ρ72 := by rw [e73]; exact CI_up hI (kind_lt h2 (by decide)) (SP_plain h2 rfl (by decide)) ⟨(fun z2 => absurd (Eq.trans (Eq.symm h2) z2) (by decide)), (fun z2 => absurd (Eq.trans (Eq.symm h2) z2) (by decide))⟩ hSS
  refine lv_aload_n hx hb dX5_hearAnswer_9 rfl (lv_at hl 2 rfl) ?_
  refine lv_aload_n hx hb dX5_hearAnswer_10 rfl (lv_at hl 0 rfl) ?_
  refine get5 B hP h 5 (by decide) mw_381 rfl dX5_hearAnswer_11 ?_
  refine put1 B hP hS h2 16 (by decide) mw_240 rfl rfl rfl (fs1_16 E k2 _ _) dX5_hearAnswer_14 (fun H locs hP hS => ?_)
  obtain ⟨ρ74, e75⟩ : ∃ z, z = up ρ72 k2 16 (ρ72 k 5) := ⟨_, rfl⟩
  rw [← e75] at hP
  have hI : CI r S ρ74 := by rw [e75]; exact CI_up hI (kind_lt h2 (by decide)) (SP_plain h2 rfl (by decide)) ⟨(fun z2 => absurd (Eq.trans (Eq.symm h2) z2) (by decide)), (fun z2 => absurd (Eq.trans (Eq.symm h2) z2) (by decide))⟩ hSS
  refine lv_aload_n hx hb dX5_hearAnswer_17 rfl (lv_at hl 2 rfl) ?_
  refine get1 B hP h2 1 (by decide) mw_199 rfl dX5_hearAnswer_18 ?_
  refine lv_aload_n hx hb dX5_hearAnswer_21 rfl (lv_at hl 0 rfl) ?_
  refine get5 B hP h 5 (by decide) mw_381 (v := .int (ρ72 k 5)) (show some (Value.int (ρ74 k 5)) = some (Value.int (ρ72 k 5)) from congrArg (fun z => some (Value.int z)) (by rw [e75]; exact up_get_ne (Or.inl (fun z => absurd (Eq.trans (Eq.symm h) (Eq.trans (congrArg hk z) h2)) (by decide))) rfl)) dX5_hearAnswer_22 ?_
  refine call_v (cVt (k := (k2 + 2)) (av := [.int (ρ72 k 5)]) (rest := []) B hP hS (d_X4_takeFirst l E ρ74 r S hSS (k2 + 2) (lay1 h2).2.1 (ρ72 k 5) hI) lk_RX5_263 (hrecv (ci := 4) B hP (hk_lt (c := 4) (lay1 h2).2.1 (by decide)) (hcc4 _ _ (lay1 h2).2.1) rfl) rfl rfl hl.1 (Nat.le_of_ble_eq_true rfl) ⟨Nat.le_of_ble_eq_true rfl, Nat.le_of_ble_eq_true rfl⟩ ⟨Nat.le_of_ble_eq_true rfl, Nat.le_of_ble_eq_true rfl⟩ dX5_hearAnswer_25) hS (fun ρ77 H locs q78 hP hS => ?_)
  have hI := q78
  refine lv_aload_n hx hb dX5_hearAnswer_28 rfl (lv_at hl 2 rfl) ?_
  refine get1 B hP h2 2 (by decide) mw_202 rfl dX5_hearAnswer_29 ?_
  refine call_i (cVt (k := (k2 + 5)) (av := []) (rest := []) B hP hS (d_X4_hearFirst l E ρ77 r S hSS (k2 + 5) (lay1 h2).2.2.1 hI) lk_RX5_266 (hrecv (ci := 4) B hP (hk_lt (c := 4) (lay1 h2).2.2.1 (by decide)) (hcc4 _ _ (lay1 h2).2.2.1) rfl) rfl rfl hl.1 (Nat.le_of_ble_eq_true rfl) ⟨Nat.le_of_ble_eq_true rfl, Nat.le_of_ble_eq_true rfl⟩ ⟨Nat.le_of_ble_eq_true rfl, Nat.le_of_ble_eq_true rfl⟩ dX5_hearAnswer_32) hS (fun r80 ρ81 H locs q82 hP hS => ?_)
  obtain ⟨hI, i83⟩ := q82
  obtain ⟨j84, lj84, uj84, ej84⟩ := iR_nat (a := 0) (b := 1) i83
  refine lv_topi (fun z85 ez85 => ?_)
  obtain rfl : z85 = nI j84 := ez85.trans ej84
  refine lv_if_eq (tgt := 48) hx hb dX5_hearAnswer_35 (by decide) (fun c86 => ?_) (fun c86 => ?_)
  · skip
    have n87 := (nI_eq (a := j84) (b := 0) (by omega) (by omega)).mp (show (nI j84 = nI 0) from c86)
    exact b48_0 ls ρ81 _ _  (lv_sub hl [2] rfl) hP hS hI 
  · skip
    have n88 := mt (nI_eq (a := j84) (b := 0) (by omega) (by omega)).mpr (show ¬ (nI j84 = nI 0) from c86)
    refine lv_aload_n hx hb dX5_hearAnswer_38 rfl (lv_at hl 0 rfl) ?_
    refine lv_dup hx hb dX5_hearAnswer_39 rfl ?_
    refine get5 B hP h 9 (by decide) mw_389 rfl dX5_hearAnswer_40 ?_
    refine lv_iconst (v := 1) hx hb dX5_hearAnswer_43 (by decide) ?_
    refine lv_iadd hx hb dX5_hearAnswer_44 ?_
    refine put5 B hP hS h 9 (by decide) mw_389 rfl rfl rfl (fs5_9 E k _ _) dX5_hearAnswer_45 (fun H locs hP hS => ?_)
    obtain ⟨ρ89, e90⟩ : ∃ z, z = up ρ81 k 9 ((ρ81 k 9) + 1) := ⟨_, rfl⟩
    rw [← e90] at hP
    have hI : CI r S ρ89 := by rw [e90]; exact CI_up hI (kind_lt h (by decide)) (SP_plain h rfl (by decide)) ⟨(fun z2 => absurd (Eq.trans (Eq.symm h) z2) (by decide)), (fun _ => by decide)⟩ hSS
    exact b48_0 ls ρ89 _ _  (lv_sub hl [2] rfl) hP hS hI 

theorem lk_RX5_290 : LkV RX5 290 RX5 yX5_hearAnswer cX5_hearAnswer 3 none 2 := ⟨⟨mw_813, mw_814, mw_815, mw_53, mw_816⟩, by decide +kernel⟩
set_option maxHeartbeats 4000000 in
set_option maxRecDepth 100000 in
theorem d_X5_sendAnswer (l : Launch) (E : hE) (ρ r : Nat → Nat → Int32) (S : Nat × Nat → Prop) (hSS : SK S) (k : Nat) (h : hk k = 5) (na1 : Nat) (lna1 : 0 ≤ na1) (una1 : na1 ≤ 1) (hI : CI r S ρ) : Met l yX5_sendAnswer (.code yX5_sendAnswer cX5_sendAnswer 5 none :: gw_all) (rmk 4 160) (cPre E ρ [.ref (E.2.1 + k), .int (nI na1)]) (cV E (fun ρ1 => CI r S ρ1)) 0 0 (hA E) := by
  refine ent (own := RX5) (by decide) rfl (Nat.le_of_ble_eq_true rfl) ?_
  intro p e s m below meth c ls B hr hlk hl hP hS
  have hx := B.1.1
  have hb := B.1.2.1
  have hown := B.1.2.2.2.1
  have hts := B.1.2.2.2.2
  have hl : lv_has ls 5 [(0, .ref (E.2.1 + k)), (1, .int (nI na1))] := hl
  have b75_0 : ∀ (ls : Array Slot) (ρ : Nat → Nat → Int32) (H : Heap) (locs : List Loc) (k75_3 : Nat) (j75_4 : Nat), lv_has ls 5 [(0, .ref (E.2.1 + k)), (2, .ref (E.2.1 + ((k + 4) + 1 + 42 * na1))), (3, .ref (E.2.1 + k75_3)), (4, .int (nI j75_4))] → WP E ρ H → va_S (hA E) s.heap H locs → CI r S ρ → hk k75_3 = 1 → 0 ≤ j75_4 → j75_4 ≤ 3 → 0 ≤ na1 → na1 ≤ 1 → W p l e (rmk 4 160) s m ([.ref (E.2.1 + k), .int (nI na1)] : List Value).toArray below meth c H locs 0 0 (MQ below (cV E (fun ρ1 => CI r S ρ1)) ([.ref (E.2.1 + k), .int (nI na1)] : List Value).toArray s 0 0 (hA E)) (F0 m 75 ls []) := by
    intro ls ρ H locs k75_3 j75_4 hl hP hS hI hk75_3 lj75_4 uj75_4 tlna1 tuna1
    refine lv_iload hx hb dX5_sendAnswer_75 (lv_at hl 3 rfl) ?_
    refine lv_if_ne (tgt := 89) hx hb dX5_sendAnswer_77 (by decide) (fun c38 => ?_) (fun c38 => ?_)
    · skip
      have n39 := mt (nI_eq (a := j75_4) (b := 0) (by omega) (by omega)).mpr (show ¬ (nI j75_4 = nI 0) from c38)
      refine lv_aload_n hx hb dX5_sendAnswer_89 rfl (lv_at hl 0 rfl) ?_
      refine get5 B hP h 2 (by decide) mw_375 rfl dX5_sendAnswer_90 ?_
      refine lv_iconst (v := 1) hx hb dX5_sendAnswer_93 (by decide) ?_
      refine lv_iload hx hb dX5_sendAnswer_94 (lv_at hl 3 rfl) ?_
      refine lv_iadd hx hb dX5_sendAnswer_96 ?_
      refine lv_topi (fun z40 ez40 => ?_)
      obtain rfl : z40 = (nI (1 + j75_4)) := ez40.trans (by rw [show 1 = nI 1 from rfl, show (nI j75_4) = nI j75_4 from rfl, nI_add] <;> exact congrArg nI (by omega))
      refine lv_dup2_11 hx hb dX5_sendAnswer_97 rfl rfl ?_
      refine aldn (n := 9) (j := (1 + j75_4)) B hP (lay5 h).2.2.2.2.1 (lay5 h).2.2.2.2.2.1 rfl (by omega) (by decide) dX5_sendAnswer_98 ?_
      refine lv_iconst (v := 1) hx hb dX5_sendAnswer_99 (by decide) ?_
      refine lv_iadd hx hb dX5_sendAnswer_100 ?_
      refine astn (n := 9) (j := (1 + j75_4)) B hP hS (lay5 h).2.2.2.2.1 (lay5 h).2.2.2.2.2.1 rfl (by omega) (by decide) dX5_sendAnswer_101 (fun H locs hP hS => ?_)
      obtain ⟨ρ41, e42⟩ : ∃ z, z = up ρ (k + 3) (1 + j75_4) ((ρ (k + 3) (1 + j75_4)) + 1) := ⟨_, rfl⟩
      rw [← e42] at hP
      have hI : CI r S ρ41 := by rw [e42]; exact CI_up hI (by have := lay5l h; omega) (SP_plain (lay5 h).2.2.2.2.1 rfl (by decide)) ⟨(fun z2 => absurd (Eq.trans (Eq.symm (lay5 h).2.2.2.2.1) z2) (by decide)), (fun z2 => absurd (Eq.trans (Eq.symm (lay5 h).2.2.2.2.1) z2) (by decide))⟩ hSS
      refine lv_aload_n hx hb dX5_sendAnswer_102 rfl (lv_at hl 2 rfl) ?_
      refine lv_bipush (v := 20) hx hb dX5_sendAnswer_103 (by decide) ?_
      refine lv_iload hx hb dX5_sendAnswer_105 (lv_at hl 3 rfl) ?_
      refine lv_iadd hx hb dX5_sendAnswer_107 ?_
      refine lv_topi (fun z43 ez43 => ?_)
      obtain rfl : z43 = (nI (20 + j75_4)) := ez43.trans (by rw [show 20 = nI 20 from rfl, show (nI j75_4) = nI j75_4 from rfl, nI_add] <;> exact congrArg nI (by omega))
      refine put1 B hP hS hk75_3 15 (by decide) mw_237 rfl rfl rfl (fs1_15 E k75_3 _ _) dX5_sendAnswer_108 (fun H locs hP hS => ?_)
      obtain ⟨ρ44, e45⟩ : ∃ z, z = up ρ41 k75_3 15 (nI (20 + j75_4)) := ⟨_, rfl⟩
      rw [← e45] at hP
      have hI : CI r S ρ44 := by rw [e45]; exact CI_up hI (kind_lt hk75_3 (by decide)) (SP_plain hk75_3 rfl (by decide)) ⟨(fun z2 => absurd (Eq.trans (Eq.symm hk75_3) z2) (by decide)), (fun z2 => absurd (Eq.trans (Eq.symm hk75_3) z2) (by decide))⟩ hSS
      exact ret_v B hr hlk hP hS dX5_sendAnswer_111 (hI)
    · skip
      have n46 := (nI_eq (a := j75_4) (b := 0) (by omega) (by omega)).mp (show (nI j75_4 = nI 0) from c38)
      refine lv_aload_n hx hb dX5_sendAnswer_80 rfl (lv_at hl 0 rfl) ?_
      refine lv_aload_n hx hb dX5_sendAnswer_81 rfl (lv_at hl 1 rfl) ?_
      refine lv_aload_n hx hb dX5_sendAnswer_82 rfl (lv_at hl 2 rfl) ?_
      refine call_v (cVt (k := k) (av := [.ref (E.2.1 + ((k + 4) + 1 + 42 * na1)), .ref (E.2.1 + k75_3)]) (rest := []) B hP hS (d_X5_hearAnswer l E ρ r S hSS k h ((k + 4) + 1 + 42 * na1) (lay5n (n := na1) h (by omega)) k75_3 hk75_3 hI) lk_RX5_290 (hrecv (ci := 5) B hP (hk_lt (c := 5) h (by decide)) (hcc5 _ _ h) rfl) rfl rfl hl.1 (Nat.le_of_ble_eq_true rfl) ⟨Nat.le_of_ble_eq_true rfl, Nat.le_of_ble_eq_true rfl⟩ ⟨Nat.le_of_ble_eq_true rfl, Nat.le_of_ble_eq_true rfl⟩ dX5_sendAnswer_83) hS (fun ρ48 H locs q49 hP hS => ?_)
      have hI := q49
      refine lv_goto (tgt := 111) hx hb dX5_sendAnswer_86 (by decide) ?_
      exact ret_v B hr hlk hP hS dX5_sendAnswer_111 (hI)
  refine lv_aload_n hx hb dX5_sendAnswer_0 rfl (lv_at hl 0 rfl) ?_
  refine get5 B hP h 3 (by decide) mw_377 rfl dX5_sendAnswer_1 ?_
  refine lv_iload_n hx hb dX5_sendAnswer_4 rfl (lv_at hl 1 rfl) ?_
  refine aldNn (j := na1) B hP (lay5 h).2.2.2.2.2.2.1 (lay5 h).2.2.2.2.2.2.2.1 rfl (by omega) dX5_sendAnswer_5 ?_
  refine lv_astore_n (lv' := [(2, .ref (E.2.1 + ((k + 4) + 1 + 42 * na1))), (0, .ref (E.2.1 + k)), (1, .int (nI na1))]) hx hb dX5_sendAnswer_6 rfl hl (by decide) rfl (fun ls hl => ?_)
  refine lv_aload_n hx hb dX5_sendAnswer_7 rfl (lv_at hl 0 rfl) ?_
  refine lv_aload_n hx hb dX5_sendAnswer_8 rfl (lv_at hl 0 rfl) ?_
  refine get2 B hP (lay5n (n := na1) h (by omega)) 15 (by decide) mw_320 rfl dX5_sendAnswer_9 ?_
  refine call_q (cVt (k := ((k + 4) + 1 + 42 * na1)) (av := [.int (ρ ((k + 4) + 1 + 42 * na1) 15)]) (rest := []) B hP hS (d_X2_linkAt l E ρ r S hSS ((k + 4) + 1 + 42 * na1) (lay5n (n := na1) h (by omega)) (ρ ((k + 4) + 1 + 42 * na1) 15) hI) lk_RX5_64 (hrecv (ci := 2) B hP (hk_lt (c := 2) (lay5n (n := na1) h (by omega)) (by decide)) (hcc2 _ _ (lay5n (n := na1) h (by omega))) rfl) rfl rfl hl.1 (Nat.le_of_ble_eq_true rfl) ⟨Nat.le_of_ble_eq_true rfl, Nat.le_of_ble_eq_true rfl⟩ ⟨Nat.le_of_ble_eq_true rfl, Nat.le_of_ble_eq_true rfl⟩ dX5_sendAnswer_12) hS (fun r51 ρ52 H locs q53 hP hS => ?_)
  obtain ⟨rfl, hI, q53⟩ := q53
  rcases q53 with rfl | ⟨j54, k55, rfl, hk55, ej54, uj54, gj54⟩
  · skip
    refine W.eq (g2 := F0 m 15 ls [.null]) rfl ?_
    refine lv_astore_nN (lv' := [(3, .null), (2, .ref (E.2.1 + ((k + 4) + 1 + 42 * na1))), (0, .ref (E.2.1 + k)), (1, .int (nI na1))]) hx hb dX5_sendAnswer_15 rfl hl (by decide) rfl (fun ls hl => ?_)
    refine lv_aload_nN hx hb dX5_sendAnswer_16 rfl (lv_at hl 0 rfl) ?_
    refine lv_ifnullN (tgt := 28) hx hb dX5_sendAnswer_17 (by decide) ?_
    exact ret_v B hr hlk hP hS dX5_sendAnswer_28 (hI)
  · skip
    refine W.eq (g2 := F0 m 15 ls [.ref (E.2.1 + k55)]) rfl ?_
    have i56 : iR (ρ ((k + 4) + 1 + 42 * na1) 8) 1 4 := iR_w gj54 (by omega) (by omega)
    refine lv_astore_n (lv' := [(3, .ref (E.2.1 + k55)), (2, .ref (E.2.1 + ((k + 4) + 1 + 42 * na1))), (0, .ref (E.2.1 + k)), (1, .int (nI na1))]) hx hb dX5_sendAnswer_15 rfl hl (by decide) rfl (fun ls hl => ?_)
    refine lv_aload_n hx hb dX5_sendAnswer_16 rfl (lv_at hl 0 rfl) ?_
    refine lv_ifnull hx hb dX5_sendAnswer_17 ?_
    refine lv_aload_n hx hb dX5_sendAnswer_20 rfl (lv_at hl 1 rfl) ?_
    refine get2 B hP (lay5n (n := na1) h (by omega)) 17 (by decide) mw_325 rfl dX5_sendAnswer_21 ?_
    refine lv_iconst (v := (-1)) hx hb dX5_sendAnswer_24 (by decide) ?_
    refine lv_icmp_ne (tgt := 29) hx hb dX5_sendAnswer_25 (by decide) (fun c57 => ?_) (fun c57 => ?_)
    · skip
      refine lv_aload_n hx hb dX5_sendAnswer_29 rfl (lv_at hl 2 rfl) ?_
      refine get5 B hP h 2 (by decide) mw_375 rfl dX5_sendAnswer_30 ?_
      refine lv_iconst (v := 1) hx hb dX5_sendAnswer_33 (by decide) ?_
      refine lv_dup2_11 hx hb dX5_sendAnswer_34 rfl rfl ?_
      refine aldn (n := 9) (j := 1) B hP (lay5 h).2.2.2.2.1 (lay5 h).2.2.2.2.2.1 rfl (by decide) (by decide) dX5_sendAnswer_35 ?_
      refine lv_iconst (v := 1) hx hb dX5_sendAnswer_36 (by decide) ?_
      refine lv_iadd hx hb dX5_sendAnswer_37 ?_
      refine astn (n := 9) (j := 1) B hP hS (lay5 h).2.2.2.2.1 (lay5 h).2.2.2.2.2.1 rfl (by decide) (by decide) dX5_sendAnswer_38 (fun H locs hP hS => ?_)
      obtain ⟨ρ58, e59⟩ : ∃ z, z = up ρ (k + 3) 1 ((ρ (k + 3) 1) + 1) := ⟨_, rfl⟩
      rw [← e59] at hP
      have hI : CI r S ρ58 := by rw [e59]; exact CI_up hI (by have := lay5l h; omega) (SP_plain (lay5 h).2.2.2.2.1 rfl (by decide)) ⟨(fun z2 => absurd (Eq.trans (Eq.symm (lay5 h).2.2.2.2.1) z2) (by decide)), (fun z2 => absurd (Eq.trans (Eq.symm (lay5 h).2.2.2.2.1) z2) (by decide))⟩ hSS
      refine lv_aload_n hx hb dX5_sendAnswer_39 rfl (lv_at hl 2 rfl) ?_
      refine lv_iload_n hx hb dX5_sendAnswer_40 rfl (lv_at hl 3 rfl) ?_
      refine call_i (cVt (k := k) (av := [.int (nI na1)]) (rest := []) B hP hS (d_X5_lossOnAir l E ρ58 r S hSS k h na1 (by omega) (by omega) hI) lk_RX5_248 (hrecv (ci := 5) B hP (hk_lt (c := 5) h (by decide)) (hcc5 _ _ h) rfl) rfl rfl hl.1 (Nat.le_of_ble_eq_true rfl) ⟨Nat.le_of_ble_eq_true rfl, Nat.le_of_ble_eq_true rfl⟩ ⟨Nat.le_of_ble_eq_true rfl, Nat.le_of_ble_eq_true rfl⟩ dX5_sendAnswer_41) hS (fun r60 ρ61 H locs q62 hP hS => ?_)
      obtain ⟨hI, i63⟩ := q62
      obtain ⟨j64, lj64, uj64, ej64⟩ := iR_nat (a := 0) (b := 2) i63
      refine lv_topi (fun z65 ez65 => ?_)
      obtain rfl : z65 = nI j64 := ez65.trans ej64
      refine lv_istore (lv' := [(4, .int (nI j64)), (3, .ref (E.2.1 + k55)), (2, .ref (E.2.1 + ((k + 4) + 1 + 42 * na1))), (0, .ref (E.2.1 + k)), (1, .int (nI na1))]) hx hb dX5_sendAnswer_44 hl (by decide) rfl (fun ls hl => ?_)
      refine lv_iload hx hb dX5_sendAnswer_46 (lv_at hl 0 rfl) ?_
      refine lv_if_ne (tgt := 75) hx hb dX5_sendAnswer_48 (by decide) (fun c66 => ?_) (fun c66 => ?_)
      · skip
        have n67 := mt (nI_eq (a := j64) (b := 0) (by omega) (by omega)).mpr (show ¬ (nI j64 = nI 0) from c66)
        exact b75_0 ls ρ61 _ _ k55 j64 (lv_sub hl [3, 2, 1, 0] rfl) hP hS hI hk55 (by omega) (by omega) (by omega) (by omega)
      · skip
        have n68 := (nI_eq (a := j64) (b := 0) (by omega) (by omega)).mp (show (nI j64 = nI 0) from c66)
        refine lv_aload_n hx hb dX5_sendAnswer_51 rfl (lv_at hl 2 rfl) ?_
        refine get2 B hP (lay5n (n := na1) h (by omega)) 16 (by decide) mw_323 rfl dX5_sendAnswer_52 ?_
        refine lv_aload_n hx hb dX5_sendAnswer_55 rfl (lv_at hl 2 rfl) ?_
        refine get2 B hP (lay5n (n := na1) h (by omega)) 0 (by decide) mw_283 rfl dX5_sendAnswer_56 ?_
        refine get3 B hP (lay2 (lay5n (n := na1) h (by omega))).1 0 (by decide) mw_94 rfl dX5_sendAnswer_59 ?_
        refine call_i (cN (av := [.int (ρ61 ((k + 4) + 1 + 42 * na1) 16), .int (ρ61 (((k + 4) + 1 + 42 * na1) + 1) 0)]) (rest := []) B hP hS (d_X6_byMap l E ρ61 r S hSS (ρ61 ((k + 4) + 1 + 42 * na1) 16) (ρ61 (((k + 4) + 1 + 42 * na1) + 1) 0) hI) lk_RX5_101 rfl rfl hl.1 (Nat.le_of_ble_eq_true rfl) ⟨Nat.le_of_ble_eq_true rfl, Nat.le_of_ble_eq_true rfl⟩ ⟨Nat.le_of_ble_eq_true rfl, Nat.le_of_ble_eq_true rfl⟩ dX5_sendAnswer_62) hS (fun r69 ρ70 H locs q71 hP hS => ?_)
        obtain ⟨rfl, hI⟩ := q71
        refine lv_aload_n hx hb dX5_sendAnswer_65 rfl (lv_at hl 2 rfl) ?_
        refine get2 B hP (lay5n (n := na1) h (by omega)) 17 (by decide) mw_325 rfl dX5_sendAnswer_66 ?_
        refine lv_icmp_eq (tgt := 75) hx hb dX5_sendAnswer_69 (by decide) (fun c73 => ?_) (fun c73 => ?_)
        · skip
          exact b75_0 ls ρ61 _ _ k55 j64 (lv_sub hl [3, 2, 1, 0] rfl) hP hS hI hk55 (by omega) (by omega) (by omega) (by omega)
        · skip
          refine lv_iconst (v := 3) hx hb dX5_sendAnswer_72 (by decide) ?_
          refine lv_istore (lv' := [(4, .int 3), (3, .ref (E.2.1 + k55)), (2, .ref (E.2.1 + ((k + 4) + 1 + 42 * na1))), (0, .ref (E.2.1 + k)), (1, .int (nI na1))]) hx hb dX5_sendAnswer_73 hl (by decide) rfl (fun ls hl => ?_)
          exact b75_0 ls ρ61 _ _ k55 3 (lv_sub hl [3, 2, 1, 0] rfl) hP hS hI hk55 (by omega) (by omega) (by omega) (by omega)
    · skip
      have i74 : iR (ρ ((k + 4) + 1 + 42 * na1) 17) (-1) (-1) := (by rw [c57]; exact ⟨by decide, by decide⟩)
      exact ret_v B hr hlk hP hS dX5_sendAnswer_28 (hI)

theorem lk_RX5_152 : LkV RX5 152 RX5 yX5_changeMaps cX5_changeMaps 4 none 1 := ⟨⟨mw_662, mw_663, mw_664, mw_53, mw_665⟩, by decide +kernel⟩
theorem lk_RX5_155 : LkV RX5 155 RX5 yX5_beginTurnOfLinks cX5_beginTurnOfLinks 4 none 1 := ⟨⟨mw_674, mw_675, mw_676, mw_53, mw_677⟩, by decide +kernel⟩
theorem lk_RX5_159 : LkV RX5 159 RX5 yX5_chooseIn cX5_chooseIn 4 none 1 := ⟨⟨mw_699, mw_700, mw_701, mw_53, mw_702⟩, by decide +kernel⟩
theorem lk_RX5_162 : LkV RX5 162 RX5 yX5_tunePacket cX5_tunePacket 5 none 1 := ⟨⟨mw_715, mw_716, mw_717, mw_53, mw_718⟩, by decide +kernel⟩
theorem lk_RX5_165 : LkV RX5 165 RX5 yX5_sendPacket cX5_sendPacket 5 none 1 := ⟨⟨mw_739, mw_740, mw_741, mw_53, mw_742⟩, by decide +kernel⟩
theorem lk_RX5_168 : LkV RX5 168 RX5 yX5_hearPacket cX5_hearPacket 4 none 1 := ⟨⟨mw_760, mw_761, mw_762, mw_53, mw_763⟩, by decide +kernel⟩
theorem lk_RX5_171 : LkV RX5 171 RX5 yX5_tuneAnswer cX5_tuneAnswer 4 none 1 := ⟨⟨mw_805, mw_806, mw_807, mw_53, mw_808⟩, by decide +kernel⟩
theorem lk_RX5_174 : LkV RX5 174 RX5 yX5_sendAnswer cX5_sendAnswer 5 none 1 := ⟨⟨mw_809, mw_810, mw_811, mw_53, mw_812⟩, by decide +kernel⟩
theorem lk_RX5_177 : LkV RX5 177 RX5 yX5_endTurnOfLinks cX5_endTurnOfLinks 3 none 1 := ⟨⟨mw_825, mw_826, mw_827, mw_53, mw_828⟩, by decide +kernel⟩
set_option maxHeartbeats 4000000 in
set_option maxRecDepth 100000 in
theorem d_X5_goOneTurn (l : Launch) (E : hE) (ρ r : Nat → Nat → Int32) (k : Nat) (h : hk k = 5) (hI : CI r S0 ρ) : Met l yX5_goOneTurn (.code yX5_goOneTurn cX5_goOneTurn 2 none :: gw_all) (rmk 5 200) (cPre E ρ [.ref (E.2.1 + k)]) (cV E (fun ρ1 => CI r S0 ρ1)) 0 0 (hA E) := by
  refine ent (own := RX5) (by decide) rfl (Nat.le_of_ble_eq_true rfl) ?_
  intro p e s m below meth c ls B hr hlk hl hP hS
  have hx := B.1.1
  have hb := B.1.2.1
  have hown := B.1.2.2.2.1
  have hts := B.1.2.2.2.2
  have hl : lv_has ls 2 [(0, .ref (E.2.1 + k))] := hl
  refine lv_iconst (v := 0) hx hb dX5_goOneTurn_0 (by decide) ?_
  refine lv_istore_n (lv' := [(1, .int 0), (0, .ref (E.2.1 + k))]) hx hb dX5_goOneTurn_1 rfl hl (by decide) rfl (fun ls hl => ?_)
  refine lv_iload_n hx hb dX5_goOneTurn_2 rfl (lv_at hl 0 rfl) ?_
  refine lv_iconst (v := 2) hx hb dX5_goOneTurn_3 (by decide) ?_
  refine lv_icmp_ge (tgt := 28) hx hb dX5_goOneTurn_4 (by decide) (fun c89 => absurd c89 (iR_nle (show iR 2 (2) (2) from ⟨by decide, by decide⟩) (show iR 0 (0) (0) from ⟨by decide, by decide⟩) (by decide))) (fun _ => ?_)
  refine lv_aload_n hx hb dX5_goOneTurn_7 rfl (lv_at hl 1 rfl) ?_
  refine lv_aload_n hx hb dX5_goOneTurn_8 rfl (lv_at hl 1 rfl) ?_
  refine get5 B hP h 3 (by decide) mw_377 rfl dX5_goOneTurn_9 ?_
  refine lv_iload_n hx hb dX5_goOneTurn_12 rfl (lv_at hl 0 rfl) ?_
  refine aldNn (j := 0) B hP (lay5 h).2.2.2.2.2.2.1 (lay5 h).2.2.2.2.2.2.2.1 rfl (by decide) dX5_goOneTurn_13 ?_
  refine call_v (cVt (k := k) (av := [.ref (E.2.1 + ((k + 4) + 1 + 42 * 0))]) (rest := []) B hP hS (d_X5_changeMaps l E ρ r S0 hS0 k h ((k + 4) + 1 + 42 * 0) (lay5n (n := 0) h (by decide)) hI) lk_RX5_152 (hrecv (ci := 5) B hP (hk_lt (c := 5) h (by decide)) (hcc5 _ _ h) rfl) rfl rfl hl.1 (Nat.le_of_ble_eq_true rfl) ⟨Nat.le_of_ble_eq_true rfl, Nat.le_of_ble_eq_true rfl⟩ ⟨Nat.le_of_ble_eq_true rfl, Nat.le_of_ble_eq_true rfl⟩ dX5_goOneTurn_14) hS (fun ρ91 H locs q92 hP hS => ?_)
  have hI := q92
  refine lv_aload_n hx hb dX5_goOneTurn_17 rfl (lv_at hl 1 rfl) ?_
  refine lv_iload_n hx hb dX5_goOneTurn_18 rfl (lv_at hl 0 rfl) ?_
  refine call_v (cVt (k := k) (av := [.int 0]) (rest := []) B hP hS (d_X5_beginTurnOfLinks l E ρ91 r S0 hS0 k h 0 (by omega) (by omega) hI) lk_RX5_155 (hrecv (ci := 5) B hP (hk_lt (c := 5) h (by decide)) (hcc5 _ _ h) rfl) rfl rfl hl.1 (Nat.le_of_ble_eq_true rfl) ⟨Nat.le_of_ble_eq_true rfl, Nat.le_of_ble_eq_true rfl⟩ ⟨Nat.le_of_ble_eq_true rfl, Nat.le_of_ble_eq_true rfl⟩ dX5_goOneTurn_19) hS (fun ρ95 H locs q96 hP hS => ?_)
  have hI := q96
  refine lv_iinc (v := 1) (lv' := [(1, .int 1), (0, .ref (E.2.1 + k))]) hx hb dX5_goOneTurn_22 hl (k := 0) rfl (by decide) (by decide) rfl (fun ls hl => ?_)
  refine lv_goto (tgt := 2) hx hb dX5_goOneTurn_25 (by decide) ?_
  refine lv_iload_n hx hb dX5_goOneTurn_2 rfl (lv_at hl 0 rfl) ?_
  refine lv_iconst (v := 2) hx hb dX5_goOneTurn_3 (by decide) ?_
  refine lv_icmp_ge (tgt := 28) hx hb dX5_goOneTurn_4 (by decide) (fun c98 => absurd c98 (iR_nle (show iR 2 (2) (2) from ⟨by decide, by decide⟩) (show iR 1 (1) (1) from ⟨by decide, by decide⟩) (by decide))) (fun _ => ?_)
  refine lv_aload_n hx hb dX5_goOneTurn_7 rfl (lv_at hl 1 rfl) ?_
  refine lv_aload_n hx hb dX5_goOneTurn_8 rfl (lv_at hl 1 rfl) ?_
  refine get5 B hP h 3 (by decide) mw_377 rfl dX5_goOneTurn_9 ?_
  refine lv_iload_n hx hb dX5_goOneTurn_12 rfl (lv_at hl 0 rfl) ?_
  refine aldNn (j := 1) B hP (lay5 h).2.2.2.2.2.2.1 (lay5 h).2.2.2.2.2.2.2.1 rfl (by decide) dX5_goOneTurn_13 ?_
  refine call_v (cVt (k := k) (av := [.ref (E.2.1 + ((k + 4) + 1 + 42 * 1))]) (rest := []) B hP hS (d_X5_changeMaps l E ρ95 r S0 hS0 k h ((k + 4) + 1 + 42 * 1) (lay5n (n := 1) h (by decide)) hI) lk_RX5_152 (hrecv (ci := 5) B hP (hk_lt (c := 5) h (by decide)) (hcc5 _ _ h) rfl) rfl rfl hl.1 (Nat.le_of_ble_eq_true rfl) ⟨Nat.le_of_ble_eq_true rfl, Nat.le_of_ble_eq_true rfl⟩ ⟨Nat.le_of_ble_eq_true rfl, Nat.le_of_ble_eq_true rfl⟩ dX5_goOneTurn_14) hS (fun ρ100 H locs q101 hP hS => ?_)
  have hI := q101
  refine lv_aload_n hx hb dX5_goOneTurn_17 rfl (lv_at hl 1 rfl) ?_
  refine lv_iload_n hx hb dX5_goOneTurn_18 rfl (lv_at hl 0 rfl) ?_
  refine call_v (cVt (k := k) (av := [.int 1]) (rest := []) B hP hS (d_X5_beginTurnOfLinks l E ρ100 r S0 hS0 k h 1 (by omega) (by omega) hI) lk_RX5_155 (hrecv (ci := 5) B hP (hk_lt (c := 5) h (by decide)) (hcc5 _ _ h) rfl) rfl rfl hl.1 (Nat.le_of_ble_eq_true rfl) ⟨Nat.le_of_ble_eq_true rfl, Nat.le_of_ble_eq_true rfl⟩ ⟨Nat.le_of_ble_eq_true rfl, Nat.le_of_ble_eq_true rfl⟩ dX5_goOneTurn_19) hS (fun ρ104 H locs q105 hP hS => ?_)
  have hI := q105
  refine lv_iinc (v := 2) (lv' := [(1, .int 2), (0, .ref (E.2.1 + k))]) hx hb dX5_goOneTurn_22 hl (k := 0) rfl (by decide) (by decide) rfl (fun ls hl => ?_)
  refine lv_goto (tgt := 2) hx hb dX5_goOneTurn_25 (by decide) ?_
  refine lv_iload_n hx hb dX5_goOneTurn_2 rfl (lv_at hl 0 rfl) ?_
  refine lv_iconst (v := 2) hx hb dX5_goOneTurn_3 (by decide) ?_
  refine lv_icmp_ge (tgt := 28) hx hb dX5_goOneTurn_4 (by decide) (fun _ => ?_) (fun c107 => absurd (iR_le (show iR 2 (2) (2) from ⟨by decide, by decide⟩) (show iR 2 (2) (2) from ⟨by decide, by decide⟩) (by decide)) c107)
  refine lv_iconst (v := 0) hx hb dX5_goOneTurn_28 (by decide) ?_
  refine lv_istore_n (lv' := [(1, .int 0), (0, .ref (E.2.1 + k))]) hx hb dX5_goOneTurn_29 rfl hl (by decide) rfl (fun ls hl => ?_)
  refine lv_iload_n hx hb dX5_goOneTurn_30 rfl (lv_at hl 0 rfl) ?_
  refine lv_iconst (v := 2) hx hb dX5_goOneTurn_31 (by decide) ?_
  refine lv_icmp_ge (tgt := 51) hx hb dX5_goOneTurn_32 (by decide) (fun c108 => absurd c108 (iR_nle (show iR 2 (2) (2) from ⟨by decide, by decide⟩) (show iR 0 (0) (0) from ⟨by decide, by decide⟩) (by decide))) (fun _ => ?_)
  refine lv_aload_n hx hb dX5_goOneTurn_35 rfl (lv_at hl 1 rfl) ?_
  refine lv_iload_n hx hb dX5_goOneTurn_36 rfl (lv_at hl 0 rfl) ?_
  refine call_v (cVt (k := k) (av := [.int 0]) (rest := []) B hP hS (d_X5_chooseIn l E ρ104 r S0 hS0 k h 0 (by omega) (by omega) hI (fun _ q => q.elim)) lk_RX5_159 (hrecv (ci := 5) B hP (hk_lt (c := 5) h (by decide)) (hcc5 _ _ h) rfl) rfl rfl hl.1 (Nat.le_of_ble_eq_true rfl) ⟨Nat.le_of_ble_eq_true rfl, Nat.le_of_ble_eq_true rfl⟩ ⟨Nat.le_of_ble_eq_true rfl, Nat.le_of_ble_eq_true rfl⟩ dX5_goOneTurn_37) hS (fun ρ110 H locs q111 hP hS => ?_)
  have hI := q111
  refine lv_aload_n hx hb dX5_goOneTurn_40 rfl (lv_at hl 1 rfl) ?_
  refine lv_iload_n hx hb dX5_goOneTurn_41 rfl (lv_at hl 0 rfl) ?_
  refine call_v (cVt (k := k) (av := [.int 0]) (rest := []) B hP hS (d_X5_tunePacket l E ρ110 r (SA S0 ((k + 4) + 1 + 42 * 0) 0) (hSA hS0 (lay5n h (show 0 < 2 by omega)) (by decide)) k h 0 (by omega) (by omega) hI) lk_RX5_162 (hrecv (ci := 5) B hP (hk_lt (c := 5) h (by decide)) (hcc5 _ _ h) rfl) rfl rfl hl.1 (Nat.le_of_ble_eq_true rfl) ⟨Nat.le_of_ble_eq_true rfl, Nat.le_of_ble_eq_true rfl⟩ ⟨Nat.le_of_ble_eq_true rfl, Nat.le_of_ble_eq_true rfl⟩ dX5_goOneTurn_42) hS (fun ρ113 H locs q114 hP hS => ?_)
  have hI := q114
  refine lv_iinc (v := 1) (lv' := [(1, .int 1), (0, .ref (E.2.1 + k))]) hx hb dX5_goOneTurn_45 hl (k := 0) rfl (by decide) (by decide) rfl (fun ls hl => ?_)
  refine lv_goto (tgt := 30) hx hb dX5_goOneTurn_48 (by decide) ?_
  refine lv_iload_n hx hb dX5_goOneTurn_30 rfl (lv_at hl 0 rfl) ?_
  refine lv_iconst (v := 2) hx hb dX5_goOneTurn_31 (by decide) ?_
  refine lv_icmp_ge (tgt := 51) hx hb dX5_goOneTurn_32 (by decide) (fun c116 => absurd c116 (iR_nle (show iR 2 (2) (2) from ⟨by decide, by decide⟩) (show iR 1 (1) (1) from ⟨by decide, by decide⟩) (by decide))) (fun _ => ?_)
  refine lv_aload_n hx hb dX5_goOneTurn_35 rfl (lv_at hl 1 rfl) ?_
  refine lv_iload_n hx hb dX5_goOneTurn_36 rfl (lv_at hl 0 rfl) ?_
  refine call_v (cVt (k := k) (av := [.int 1]) (rest := []) B hP hS (d_X5_chooseIn l E ρ113 r (SA S0 ((k + 4) + 1 + 42 * 0) 0) (hSA hS0 (lay5n h (show 0 < 2 by omega)) (by decide)) k h 1 (by omega) (by omega) hI (fun x q => q.elim (fun z => z.elim) (fun z => by rw [z]; show ((k + 4) + 1 + 42 * 0) ≠ ((k + 4) + 1 + 42 * 1); omega))) lk_RX5_159 (hrecv (ci := 5) B hP (hk_lt (c := 5) h (by decide)) (hcc5 _ _ h) rfl) rfl rfl hl.1 (Nat.le_of_ble_eq_true rfl) ⟨Nat.le_of_ble_eq_true rfl, Nat.le_of_ble_eq_true rfl⟩ ⟨Nat.le_of_ble_eq_true rfl, Nat.le_of_ble_eq_true rfl⟩ dX5_goOneTurn_37) hS (fun ρ118 H locs q119 hP hS => ?_)
  have hI := q119
  refine lv_aload_n hx hb dX5_goOneTurn_40 rfl (lv_at hl 1 rfl) ?_
  refine lv_iload_n hx hb dX5_goOneTurn_41 rfl (lv_at hl 0 rfl) ?_
  refine call_v (cVt (k := k) (av := [.int 1]) (rest := []) B hP hS (d_X5_tunePacket l E ρ118 r (SA (SA S0 ((k + 4) + 1 + 42 * 0) 0) ((k + 4) + 1 + 42 * 1) 0) (hSA (hSA hS0 (lay5n h (show 0 < 2 by omega)) (by decide)) (lay5n h (show 1 < 2 by omega)) (by decide)) k h 1 (by omega) (by omega) hI) lk_RX5_162 (hrecv (ci := 5) B hP (hk_lt (c := 5) h (by decide)) (hcc5 _ _ h) rfl) rfl rfl hl.1 (Nat.le_of_ble_eq_true rfl) ⟨Nat.le_of_ble_eq_true rfl, Nat.le_of_ble_eq_true rfl⟩ ⟨Nat.le_of_ble_eq_true rfl, Nat.le_of_ble_eq_true rfl⟩ dX5_goOneTurn_42) hS (fun ρ121 H locs q122 hP hS => ?_)
  have hI := q122
  refine lv_iinc (v := 2) (lv' := [(1, .int 2), (0, .ref (E.2.1 + k))]) hx hb dX5_goOneTurn_45 hl (k := 0) rfl (by decide) (by decide) rfl (fun ls hl => ?_)
  refine lv_goto (tgt := 30) hx hb dX5_goOneTurn_48 (by decide) ?_
  refine lv_iload_n hx hb dX5_goOneTurn_30 rfl (lv_at hl 0 rfl) ?_
  refine lv_iconst (v := 2) hx hb dX5_goOneTurn_31 (by decide) ?_
  refine lv_icmp_ge (tgt := 51) hx hb dX5_goOneTurn_32 (by decide) (fun _ => ?_) (fun c124 => absurd (iR_le (show iR 2 (2) (2) from ⟨by decide, by decide⟩) (show iR 2 (2) (2) from ⟨by decide, by decide⟩) (by decide)) c124)
  refine lv_iconst (v := 0) hx hb dX5_goOneTurn_51 (by decide) ?_
  refine lv_istore_n (lv' := [(1, .int 0), (0, .ref (E.2.1 + k))]) hx hb dX5_goOneTurn_52 rfl hl (by decide) rfl (fun ls hl => ?_)
  refine lv_iload_n hx hb dX5_goOneTurn_53 rfl (lv_at hl 0 rfl) ?_
  refine lv_iconst (v := 2) hx hb dX5_goOneTurn_54 (by decide) ?_
  refine lv_icmp_ge (tgt := 69) hx hb dX5_goOneTurn_55 (by decide) (fun c125 => absurd c125 (iR_nle (show iR 2 (2) (2) from ⟨by decide, by decide⟩) (show iR 0 (0) (0) from ⟨by decide, by decide⟩) (by decide))) (fun _ => ?_)
  refine lv_aload_n hx hb dX5_goOneTurn_58 rfl (lv_at hl 1 rfl) ?_
  refine lv_iload_n hx hb dX5_goOneTurn_59 rfl (lv_at hl 0 rfl) ?_
  refine call_v (cVt (k := k) (av := [.int 0]) (rest := []) B hP hS (d_X5_sendPacket l E ρ121 r (SA (SA S0 ((k + 4) + 1 + 42 * 0) 0) ((k + 4) + 1 + 42 * 1) 0) (hSA (hSA hS0 (lay5n h (show 0 < 2 by omega)) (by decide)) (lay5n h (show 1 < 2 by omega)) (by decide)) k h 0 (by omega) (by omega) hI) lk_RX5_165 (hrecv (ci := 5) B hP (hk_lt (c := 5) h (by decide)) (hcc5 _ _ h) rfl) rfl rfl hl.1 (Nat.le_of_ble_eq_true rfl) ⟨Nat.le_of_ble_eq_true rfl, Nat.le_of_ble_eq_true rfl⟩ ⟨Nat.le_of_ble_eq_true rfl, Nat.le_of_ble_eq_true rfl⟩ dX5_goOneTurn_60) hS (fun ρ127 H locs q128 hP hS => ?_)
  have hI := q128
  refine lv_iinc (v := 1) (lv' := [(1, .int 1), (0, .ref (E.2.1 + k))]) hx hb dX5_goOneTurn_63 hl (k := 0) rfl (by decide) (by decide) rfl (fun ls hl => ?_)
  refine lv_goto (tgt := 53) hx hb dX5_goOneTurn_66 (by decide) ?_
  refine lv_iload_n hx hb dX5_goOneTurn_53 rfl (lv_at hl 0 rfl) ?_
  refine lv_iconst (v := 2) hx hb dX5_goOneTurn_54 (by decide) ?_
  refine lv_icmp_ge (tgt := 69) hx hb dX5_goOneTurn_55 (by decide) (fun c130 => absurd c130 (iR_nle (show iR 2 (2) (2) from ⟨by decide, by decide⟩) (show iR 1 (1) (1) from ⟨by decide, by decide⟩) (by decide))) (fun _ => ?_)
  refine lv_aload_n hx hb dX5_goOneTurn_58 rfl (lv_at hl 1 rfl) ?_
  refine lv_iload_n hx hb dX5_goOneTurn_59 rfl (lv_at hl 0 rfl) ?_
  refine call_v (cVt (k := k) (av := [.int 1]) (rest := []) B hP hS (d_X5_sendPacket l E ρ127 r (SA (SA S0 ((k + 4) + 1 + 42 * 0) 0) ((k + 4) + 1 + 42 * 1) 0) (hSA (hSA hS0 (lay5n h (show 0 < 2 by omega)) (by decide)) (lay5n h (show 1 < 2 by omega)) (by decide)) k h 1 (by omega) (by omega) hI) lk_RX5_165 (hrecv (ci := 5) B hP (hk_lt (c := 5) h (by decide)) (hcc5 _ _ h) rfl) rfl rfl hl.1 (Nat.le_of_ble_eq_true rfl) ⟨Nat.le_of_ble_eq_true rfl, Nat.le_of_ble_eq_true rfl⟩ ⟨Nat.le_of_ble_eq_true rfl, Nat.le_of_ble_eq_true rfl⟩ dX5_goOneTurn_60) hS (fun ρ132 H locs q133 hP hS => ?_)
  have hI := q133
  refine lv_iinc (v := 2) (lv' := [(1, .int 2), (0, .ref (E.2.1 + k))]) hx hb dX5_goOneTurn_63 hl (k := 0) rfl (by decide) (by decide) rfl (fun ls hl => ?_)
  refine lv_goto (tgt := 53) hx hb dX5_goOneTurn_66 (by decide) ?_
  refine lv_iload_n hx hb dX5_goOneTurn_53 rfl (lv_at hl 0 rfl) ?_
  refine lv_iconst (v := 2) hx hb dX5_goOneTurn_54 (by decide) ?_
  refine lv_icmp_ge (tgt := 69) hx hb dX5_goOneTurn_55 (by decide) (fun _ => ?_) (fun c135 => absurd (iR_le (show iR 2 (2) (2) from ⟨by decide, by decide⟩) (show iR 2 (2) (2) from ⟨by decide, by decide⟩) (by decide)) c135)
  refine lv_iconst (v := 0) hx hb dX5_goOneTurn_69 (by decide) ?_
  refine lv_istore_n (lv' := [(1, .int 0), (0, .ref (E.2.1 + k))]) hx hb dX5_goOneTurn_70 rfl hl (by decide) rfl (fun ls hl => ?_)
  refine lv_iload_n hx hb dX5_goOneTurn_71 rfl (lv_at hl 0 rfl) ?_
  refine lv_iconst (v := 2) hx hb dX5_goOneTurn_72 (by decide) ?_
  refine lv_icmp_ge (tgt := 92) hx hb dX5_goOneTurn_73 (by decide) (fun c136 => absurd c136 (iR_nle (show iR 2 (2) (2) from ⟨by decide, by decide⟩) (show iR 0 (0) (0) from ⟨by decide, by decide⟩) (by decide))) (fun _ => ?_)
  refine lv_aload_n hx hb dX5_goOneTurn_76 rfl (lv_at hl 1 rfl) ?_
  refine lv_iload_n hx hb dX5_goOneTurn_77 rfl (lv_at hl 0 rfl) ?_
  refine call_v (cVt (k := k) (av := [.int 0]) (rest := []) B hP hS (d_X5_hearPacket l E ρ132 r (SA S0 ((k + 4) + 1 + 42 * 1) 0) (hSA hS0 (lay5n h (show 1 < 2 by omega)) (by decide)) k h 0 (by omega) (by omega) (CI_S hI (fun x q => hI.2.1 x (q.elim (fun z => z.elim (fun y => y.elim) (fun y => Or.inr y)) (fun z => Or.inl (Or.inr z))))) (fun x q => q.elim (fun z => z.elim) (fun z => by rw [z]; show ((k + 4) + 1 + 42 * 1) ≠ ((k + 4) + 1 + 42 * 0); omega))) lk_RX5_168 (hrecv (ci := 5) B hP (hk_lt (c := 5) h (by decide)) (hcc5 _ _ h) rfl) rfl rfl hl.1 (Nat.le_of_ble_eq_true rfl) ⟨Nat.le_of_ble_eq_true rfl, Nat.le_of_ble_eq_true rfl⟩ ⟨Nat.le_of_ble_eq_true rfl, Nat.le_of_ble_eq_true rfl⟩ dX5_goOneTurn_78) hS (fun ρ138 H locs q139 hP hS => ?_)
  have hI := q139
  refine lv_aload_n hx hb dX5_goOneTurn_81 rfl (lv_at hl 1 rfl) ?_
  refine lv_iload_n hx hb dX5_goOneTurn_82 rfl (lv_at hl 0 rfl) ?_
  refine call_v (cVt (k := k) (av := [.int 0]) (rest := []) B hP hS (d_X5_tuneAnswer l E ρ138 r (SA S0 ((k + 4) + 1 + 42 * 1) 0) (hSA hS0 (lay5n h (show 1 < 2 by omega)) (by decide)) k h 0 (by omega) (by omega) hI) lk_RX5_171 (hrecv (ci := 5) B hP (hk_lt (c := 5) h (by decide)) (hcc5 _ _ h) rfl) rfl rfl hl.1 (Nat.le_of_ble_eq_true rfl) ⟨Nat.le_of_ble_eq_true rfl, Nat.le_of_ble_eq_true rfl⟩ ⟨Nat.le_of_ble_eq_true rfl, Nat.le_of_ble_eq_true rfl⟩ dX5_goOneTurn_83) hS (fun ρ141 H locs q142 hP hS => ?_)
  have hI := q142
  refine lv_iinc (v := 1) (lv' := [(1, .int 1), (0, .ref (E.2.1 + k))]) hx hb dX5_goOneTurn_86 hl (k := 0) rfl (by decide) (by decide) rfl (fun ls hl => ?_)
  refine lv_goto (tgt := 71) hx hb dX5_goOneTurn_89 (by decide) ?_
  refine lv_iload_n hx hb dX5_goOneTurn_71 rfl (lv_at hl 0 rfl) ?_
  refine lv_iconst (v := 2) hx hb dX5_goOneTurn_72 (by decide) ?_
  refine lv_icmp_ge (tgt := 92) hx hb dX5_goOneTurn_73 (by decide) (fun c144 => absurd c144 (iR_nle (show iR 2 (2) (2) from ⟨by decide, by decide⟩) (show iR 1 (1) (1) from ⟨by decide, by decide⟩) (by decide))) (fun _ => ?_)
  refine lv_aload_n hx hb dX5_goOneTurn_76 rfl (lv_at hl 1 rfl) ?_
  refine lv_iload_n hx hb dX5_goOneTurn_77 rfl (lv_at hl 0 rfl) ?_
  refine call_v (cVt (k := k) (av := [.int 1]) (rest := []) B hP hS (d_X5_hearPacket l E ρ141 r S0 hS0 k h 1 (by omega) (by omega) hI (fun _ q => q.elim)) lk_RX5_168 (hrecv (ci := 5) B hP (hk_lt (c := 5) h (by decide)) (hcc5 _ _ h) rfl) rfl rfl hl.1 (Nat.le_of_ble_eq_true rfl) ⟨Nat.le_of_ble_eq_true rfl, Nat.le_of_ble_eq_true rfl⟩ ⟨Nat.le_of_ble_eq_true rfl, Nat.le_of_ble_eq_true rfl⟩ dX5_goOneTurn_78) hS (fun ρ146 H locs q147 hP hS => ?_)
  have hI := q147
  refine lv_aload_n hx hb dX5_goOneTurn_81 rfl (lv_at hl 1 rfl) ?_
  refine lv_iload_n hx hb dX5_goOneTurn_82 rfl (lv_at hl 0 rfl) ?_
  refine call_v (cVt (k := k) (av := [.int 1]) (rest := []) B hP hS (d_X5_tuneAnswer l E ρ146 r S0 hS0 k h 1 (by omega) (by omega) hI) lk_RX5_171 (hrecv (ci := 5) B hP (hk_lt (c := 5) h (by decide)) (hcc5 _ _ h) rfl) rfl rfl hl.1 (Nat.le_of_ble_eq_true rfl) ⟨Nat.le_of_ble_eq_true rfl, Nat.le_of_ble_eq_true rfl⟩ ⟨Nat.le_of_ble_eq_true rfl, Nat.le_of_ble_eq_true rfl⟩ dX5_goOneTurn_83) hS (fun ρ149 H locs q150 hP hS => ?_)
  have hI := q150
  refine lv_iinc (v := 2) (lv' := [(1, .int 2), (0, .ref (E.2.1 + k))]) hx hb dX5_goOneTurn_86 hl (k := 0) rfl (by decide) (by decide) rfl (fun ls hl => ?_)
  refine lv_goto (tgt := 71) hx hb dX5_goOneTurn_89 (by decide) ?_
  refine lv_iload_n hx hb dX5_goOneTurn_71 rfl (lv_at hl 0 rfl) ?_
  refine lv_iconst (v := 2) hx hb dX5_goOneTurn_72 (by decide) ?_
  refine lv_icmp_ge (tgt := 92) hx hb dX5_goOneTurn_73 (by decide) (fun _ => ?_) (fun c152 => absurd (iR_le (show iR 2 (2) (2) from ⟨by decide, by decide⟩) (show iR 2 (2) (2) from ⟨by decide, by decide⟩) (by decide)) c152)
  refine lv_iconst (v := 0) hx hb dX5_goOneTurn_92 (by decide) ?_
  refine lv_istore_n (lv' := [(1, .int 0), (0, .ref (E.2.1 + k))]) hx hb dX5_goOneTurn_93 rfl hl (by decide) rfl (fun ls hl => ?_)
  refine lv_iload_n hx hb dX5_goOneTurn_94 rfl (lv_at hl 0 rfl) ?_
  refine lv_iconst (v := 2) hx hb dX5_goOneTurn_95 (by decide) ?_
  refine lv_icmp_ge (tgt := 110) hx hb dX5_goOneTurn_96 (by decide) (fun c153 => absurd c153 (iR_nle (show iR 2 (2) (2) from ⟨by decide, by decide⟩) (show iR 0 (0) (0) from ⟨by decide, by decide⟩) (by decide))) (fun _ => ?_)
  refine lv_aload_n hx hb dX5_goOneTurn_99 rfl (lv_at hl 1 rfl) ?_
  refine lv_iload_n hx hb dX5_goOneTurn_100 rfl (lv_at hl 0 rfl) ?_
  refine call_v (cVt (k := k) (av := [.int 0]) (rest := []) B hP hS (d_X5_sendAnswer l E ρ149 r S0 hS0 k h 0 (by omega) (by omega) hI) lk_RX5_174 (hrecv (ci := 5) B hP (hk_lt (c := 5) h (by decide)) (hcc5 _ _ h) rfl) rfl rfl hl.1 (Nat.le_of_ble_eq_true rfl) ⟨Nat.le_of_ble_eq_true rfl, Nat.le_of_ble_eq_true rfl⟩ ⟨Nat.le_of_ble_eq_true rfl, Nat.le_of_ble_eq_true rfl⟩ dX5_goOneTurn_101) hS (fun ρ155 H locs q156 hP hS => ?_)
  have hI := q156
  refine lv_iinc (v := 1) (lv' := [(1, .int 1), (0, .ref (E.2.1 + k))]) hx hb dX5_goOneTurn_104 hl (k := 0) rfl (by decide) (by decide) rfl (fun ls hl => ?_)
  refine lv_goto (tgt := 94) hx hb dX5_goOneTurn_107 (by decide) ?_
  refine lv_iload_n hx hb dX5_goOneTurn_94 rfl (lv_at hl 0 rfl) ?_
  refine lv_iconst (v := 2) hx hb dX5_goOneTurn_95 (by decide) ?_
  refine lv_icmp_ge (tgt := 110) hx hb dX5_goOneTurn_96 (by decide) (fun c158 => absurd c158 (iR_nle (show iR 2 (2) (2) from ⟨by decide, by decide⟩) (show iR 1 (1) (1) from ⟨by decide, by decide⟩) (by decide))) (fun _ => ?_)
  refine lv_aload_n hx hb dX5_goOneTurn_99 rfl (lv_at hl 1 rfl) ?_
  refine lv_iload_n hx hb dX5_goOneTurn_100 rfl (lv_at hl 0 rfl) ?_
  refine call_v (cVt (k := k) (av := [.int 1]) (rest := []) B hP hS (d_X5_sendAnswer l E ρ155 r S0 hS0 k h 1 (by omega) (by omega) hI) lk_RX5_174 (hrecv (ci := 5) B hP (hk_lt (c := 5) h (by decide)) (hcc5 _ _ h) rfl) rfl rfl hl.1 (Nat.le_of_ble_eq_true rfl) ⟨Nat.le_of_ble_eq_true rfl, Nat.le_of_ble_eq_true rfl⟩ ⟨Nat.le_of_ble_eq_true rfl, Nat.le_of_ble_eq_true rfl⟩ dX5_goOneTurn_101) hS (fun ρ160 H locs q161 hP hS => ?_)
  have hI := q161
  refine lv_iinc (v := 2) (lv' := [(1, .int 2), (0, .ref (E.2.1 + k))]) hx hb dX5_goOneTurn_104 hl (k := 0) rfl (by decide) (by decide) rfl (fun ls hl => ?_)
  refine lv_goto (tgt := 94) hx hb dX5_goOneTurn_107 (by decide) ?_
  refine lv_iload_n hx hb dX5_goOneTurn_94 rfl (lv_at hl 0 rfl) ?_
  refine lv_iconst (v := 2) hx hb dX5_goOneTurn_95 (by decide) ?_
  refine lv_icmp_ge (tgt := 110) hx hb dX5_goOneTurn_96 (by decide) (fun _ => ?_) (fun c163 => absurd (iR_le (show iR 2 (2) (2) from ⟨by decide, by decide⟩) (show iR 2 (2) (2) from ⟨by decide, by decide⟩) (by decide)) c163)
  refine lv_iconst (v := 0) hx hb dX5_goOneTurn_110 (by decide) ?_
  refine lv_istore_n (lv' := [(1, .int 0), (0, .ref (E.2.1 + k))]) hx hb dX5_goOneTurn_111 rfl hl (by decide) rfl (fun ls hl => ?_)
  refine lv_iload_n hx hb dX5_goOneTurn_112 rfl (lv_at hl 0 rfl) ?_
  refine lv_iconst (v := 2) hx hb dX5_goOneTurn_113 (by decide) ?_
  refine lv_icmp_ge (tgt := 133) hx hb dX5_goOneTurn_114 (by decide) (fun c164 => absurd c164 (iR_nle (show iR 2 (2) (2) from ⟨by decide, by decide⟩) (show iR 0 (0) (0) from ⟨by decide, by decide⟩) (by decide))) (fun _ => ?_)
  refine lv_aload_n hx hb dX5_goOneTurn_117 rfl (lv_at hl 1 rfl) ?_
  refine lv_aload_n hx hb dX5_goOneTurn_118 rfl (lv_at hl 1 rfl) ?_
  refine get5 B hP h 3 (by decide) mw_377 rfl dX5_goOneTurn_119 ?_
  refine lv_iload_n hx hb dX5_goOneTurn_122 rfl (lv_at hl 0 rfl) ?_
  refine aldNn (j := 0) B hP (lay5 h).2.2.2.2.2.2.1 (lay5 h).2.2.2.2.2.2.2.1 rfl (by decide) dX5_goOneTurn_123 ?_
  refine call_v (cVt (k := k) (av := [.ref (E.2.1 + ((k + 4) + 1 + 42 * 0))]) (rest := []) B hP hS (d_X5_endTurnOfLinks l E ρ160 r S0 hS0 k h ((k + 4) + 1 + 42 * 0) (lay5n (n := 0) h (by decide)) hI) lk_RX5_177 (hrecv (ci := 5) B hP (hk_lt (c := 5) h (by decide)) (hcc5 _ _ h) rfl) rfl rfl hl.1 (Nat.le_of_ble_eq_true rfl) ⟨Nat.le_of_ble_eq_true rfl, Nat.le_of_ble_eq_true rfl⟩ ⟨Nat.le_of_ble_eq_true rfl, Nat.le_of_ble_eq_true rfl⟩ dX5_goOneTurn_124) hS (fun ρ166 H locs q167 hP hS => ?_)
  have hI := q167
  refine lv_iinc (v := 1) (lv' := [(1, .int 1), (0, .ref (E.2.1 + k))]) hx hb dX5_goOneTurn_127 hl (k := 0) rfl (by decide) (by decide) rfl (fun ls hl => ?_)
  refine lv_goto (tgt := 112) hx hb dX5_goOneTurn_130 (by decide) ?_
  refine lv_iload_n hx hb dX5_goOneTurn_112 rfl (lv_at hl 0 rfl) ?_
  refine lv_iconst (v := 2) hx hb dX5_goOneTurn_113 (by decide) ?_
  refine lv_icmp_ge (tgt := 133) hx hb dX5_goOneTurn_114 (by decide) (fun c169 => absurd c169 (iR_nle (show iR 2 (2) (2) from ⟨by decide, by decide⟩) (show iR 1 (1) (1) from ⟨by decide, by decide⟩) (by decide))) (fun _ => ?_)
  refine lv_aload_n hx hb dX5_goOneTurn_117 rfl (lv_at hl 1 rfl) ?_
  refine lv_aload_n hx hb dX5_goOneTurn_118 rfl (lv_at hl 1 rfl) ?_
  refine get5 B hP h 3 (by decide) mw_377 rfl dX5_goOneTurn_119 ?_
  refine lv_iload_n hx hb dX5_goOneTurn_122 rfl (lv_at hl 0 rfl) ?_
  refine aldNn (j := 1) B hP (lay5 h).2.2.2.2.2.2.1 (lay5 h).2.2.2.2.2.2.2.1 rfl (by decide) dX5_goOneTurn_123 ?_
  refine call_v (cVt (k := k) (av := [.ref (E.2.1 + ((k + 4) + 1 + 42 * 1))]) (rest := []) B hP hS (d_X5_endTurnOfLinks l E ρ166 r S0 hS0 k h ((k + 4) + 1 + 42 * 1) (lay5n (n := 1) h (by decide)) hI) lk_RX5_177 (hrecv (ci := 5) B hP (hk_lt (c := 5) h (by decide)) (hcc5 _ _ h) rfl) rfl rfl hl.1 (Nat.le_of_ble_eq_true rfl) ⟨Nat.le_of_ble_eq_true rfl, Nat.le_of_ble_eq_true rfl⟩ ⟨Nat.le_of_ble_eq_true rfl, Nat.le_of_ble_eq_true rfl⟩ dX5_goOneTurn_124) hS (fun ρ171 H locs q172 hP hS => ?_)
  have hI := q172
  refine lv_iinc (v := 2) (lv' := [(1, .int 2), (0, .ref (E.2.1 + k))]) hx hb dX5_goOneTurn_127 hl (k := 0) rfl (by decide) (by decide) rfl (fun ls hl => ?_)
  refine lv_goto (tgt := 112) hx hb dX5_goOneTurn_130 (by decide) ?_
  refine lv_iload_n hx hb dX5_goOneTurn_112 rfl (lv_at hl 0 rfl) ?_
  refine lv_iconst (v := 2) hx hb dX5_goOneTurn_113 (by decide) ?_
  refine lv_icmp_ge (tgt := 133) hx hb dX5_goOneTurn_114 (by decide) (fun _ => ?_) (fun c174 => absurd (iR_le (show iR 2 (2) (2) from ⟨by decide, by decide⟩) (show iR 2 (2) (2) from ⟨by decide, by decide⟩) (by decide)) c174)
  refine lv_aload_n hx hb dX5_goOneTurn_133 rfl (lv_at hl 1 rfl) ?_
  refine lv_dup hx hb dX5_goOneTurn_134 rfl ?_
  refine get5 B hP h 5 (by decide) mw_381 rfl dX5_goOneTurn_135 ?_
  refine lv_iconst (v := 2) hx hb dX5_goOneTurn_138 (by decide) ?_
  refine lv_iadd hx hb dX5_goOneTurn_139 ?_
  refine put5 B hP hS h 5 (by decide) mw_381 rfl rfl rfl (fs5_5 E k _ _) dX5_goOneTurn_140 (fun H locs hP hS => ?_)
  obtain ⟨ρ175, e176⟩ : ∃ z, z = up ρ171 k 5 ((ρ171 k 5) + 2) := ⟨_, rfl⟩
  rw [← e176] at hP
  have hI : CI r S0 ρ175 := by rw [e176]; exact CI_up hI (kind_lt h (by decide)) (SP_plain h rfl (by decide)) ⟨(fun z2 => absurd (Eq.trans (Eq.symm h) z2) (by decide)), (fun _ => by decide)⟩ hS0
  exact ret_v B hr hlk hP hS dX5_goOneTurn_143 (hI)

theorem lk_RX5_149 : LkV RX5 149 RX5 yX5_goOneTurn cX5_goOneTurn 2 none 0 := ⟨⟨mw_658, mw_659, mw_660, mw_53, mw_661⟩, by decide +kernel⟩
set_option maxHeartbeats 4000000 in
set_option maxRecDepth 100000 in
theorem d_X5_heardInTurns (l : Launch) (E : hE) (ρ r : Nat → Nat → Int32) (k : Nat) (h : hk k = 5) (na1 : Nat) (lna1 : 0 ≤ na1) (una1 : na1 ≤ 200) (hI : CI r S0 ρ) : Met l yX5_heardInTurns (.code yX5_heardInTurns cX5_heardInTurns 3 (some .int) :: gw_all) (rmk 6 240) (cPre E ρ [.ref (E.2.1 + k), .int (nI na1)]) (cI E (fun v ρ1 => CI r S0 ρ1)) 0 0 (hA E) := by
  refine ent (own := RX5) (by decide) rfl (Nat.le_of_ble_eq_true rfl) ?_
  intro p e s m below meth c ls B hr hlk hl hP hS
  have hx := B.1.1
  have hb := B.1.2.1
  have hown := B.1.2.2.2.1
  have hts := B.1.2.2.2.2
  have hl : lv_has ls 3 [(0, .ref (E.2.1 + k)), (1, .int (nI na1))] := hl
  have b7_0 : ∀ (ls : Array Slot) (ρ : Nat → Nat → Int32) (H : Heap) (locs : List Loc) (d7 : Nat) (j7_2 : Nat), lv_has ls 3 [(0, .ref (E.2.1 + k)), (1, .int (nI na1)), (2, .int (nI j7_2))] → WP E ρ H → va_S (hA E) s.heap H locs → CI r S0 ρ → 1000004 - j7_2 < d7 → 0 ≤ j7_2 → j7_2 ≤ 1000003 → 0 ≤ na1 → na1 ≤ 200 → W p l e (rmk 6 240) s m ([.ref (E.2.1 + k), .int (nI na1)] : List Value).toArray below meth c H locs 0 0 (MQ below (cI E (fun v ρ1 => CI r S0 ρ1)) ([.ref (E.2.1 + k), .int (nI na1)] : List Value).toArray s 0 0 (hA E)) (F0 m 7 ls []) := by
    intro ls ρ H locs d7
    induction d7 generalizing ls ρ H locs with
    | zero => intro j7_2 hl hP hS hI hd7 lj7_2 uj7_2 tlna1 tuna1; exact absurd hd7 (Nat.not_lt_zero _)
    | succ d7 ih7 =>
      intro j7_2 hl hP hS hI hd7 lj7_2 uj7_2 tlna1 tuna1
      refine lv_iload_n hx hb dX5_heardInTurns_7 rfl (lv_at hl 2 rfl) ?_
      refine lv_iload_n hx hb dX5_heardInTurns_8 rfl (lv_at hl 1 rfl) ?_
      refine lv_icmp_ge (tgt := 22) hx hb dX5_heardInTurns_9 (by decide) (fun c73 => ?_) (fun c73 => ?_)
      · skip
        have n74 := mt (nx_lt (a := j7_2) (b := na1) (by omega) (by omega)).mpr (show ¬ (nI j7_2 < nI na1) from (Int32.not_lt.mpr c73))
        refine lv_aload_n hx hb dX5_heardInTurns_22 rfl (lv_at hl 0 rfl) ?_
        refine get5 B hP h 9 (by decide) mw_389 rfl dX5_heardInTurns_23 ?_
        exact ret_i B hr hlk hP hS dX5_heardInTurns_26 (hI)
      · skip
        have n75 := (nx_lt (a := j7_2) (b := na1) (by omega) (by omega)).mp (show (nI j7_2 < nI na1) from (Int32.not_le.mp c73))
        refine lv_aload_n hx hb dX5_heardInTurns_12 rfl (lv_at hl 0 rfl) ?_
        refine call_v (cVt (k := k) (av := []) (rest := []) B hP hS (d_X5_goOneTurn l E ρ r k h hI) lk_RX5_149 (hrecv (ci := 5) B hP (hk_lt (c := 5) h (by decide)) (hcc5 _ _ h) rfl) rfl rfl hl.1 (Nat.le_of_ble_eq_true rfl) ⟨Nat.le_of_ble_eq_true rfl, Nat.le_of_ble_eq_true rfl⟩ ⟨Nat.le_of_ble_eq_true rfl, Nat.le_of_ble_eq_true rfl⟩ dX5_heardInTurns_13) hS (fun ρ77 H locs q78 hP hS => ?_)
        have hI := q78
        refine lv_iinc (v := (nI (1 + j7_2))) (lv' := [(2, .int (nI (1 + j7_2))), (0, .ref (E.2.1 + k)), (1, .int (nI na1))]) hx hb dX5_heardInTurns_16 hl (k := 2) rfl (show nI j7_2 + nI 1 = _ from (nI_add _ _).trans (congrArg nI (by omega))) (by decide) rfl (fun ls hl => ?_)
        refine lv_goto (tgt := 7) hx hb dX5_heardInTurns_19 (by decide) ?_
        exact ih7 ls ρ77 _ _ (1 + j7_2) (lv_sub hl [1, 2, 0] rfl) hP hS hI (by omega) (by omega) (by omega) (by omega) (by omega)
  refine lv_aload_n hx hb dX5_heardInTurns_0 rfl (lv_at hl 0 rfl) ?_
  refine lv_iconst (v := 0) hx hb dX5_heardInTurns_1 (by decide) ?_
  refine put5 B hP hS h 9 (by decide) mw_389 rfl rfl rfl (fs5_9 E k _ _) dX5_heardInTurns_2 (fun H locs hP hS => ?_)
  obtain ⟨ρ80, e81⟩ : ∃ z, z = up ρ k 9 0 := ⟨_, rfl⟩
  rw [← e81] at hP
  have hI : CI r S0 ρ80 := by rw [e81]; exact CI_up hI (kind_lt h (by decide)) (SP_plain h rfl (by decide)) ⟨(fun z2 => absurd (Eq.trans (Eq.symm h) z2) (by decide)), (fun _ => by decide)⟩ hS0
  refine lv_iconst (v := 0) hx hb dX5_heardInTurns_5 (by decide) ?_
  refine lv_istore_n (lv' := [(2, .int 0), (0, .ref (E.2.1 + k)), (1, .int (nI na1))]) hx hb dX5_heardInTurns_6 rfl hl (by decide) rfl (fun ls hl => ?_)
  exact b7_0 ls ρ80 _ _ _ 0 (lv_sub hl [1, 2, 0] rfl) hP hS hI (Nat.lt_succ_self _) (by omega) (by omega) (by omega) (by omega)

theorem lk_RX5_53 : LkV RX5 53 RX2 yX2_copyFrom cX2_copyFrom 3 none 1 := ⟨⟨mw_473, mw_474, mw_475, mw_54, mw_476⟩, by decide +kernel⟩
set_option maxHeartbeats 4000000 in
set_option maxRecDepth 100000 in
theorem d_X5_copyFrom (l : Launch) (E : hE) (ρ r : Nat → Nat → Int32) (S : Nat × Nat → Prop) (hSS : SK S) (k : Nat) (h : hk k = 5) (k1 : Nat) (h1 : hk k1 = 5) (hI : CI r S ρ) (hne : ∀ x, S x → x.1 ≠ k ∧ x.1 ≠ k + 5 ∧ x.1 ≠ k + 47) : Met l yX5_copyFrom (.code yX5_copyFrom cX5_copyFrom 3 none :: gw_all) (rmk 5 200) (cPre E ρ [.ref (E.2.1 + k), .ref (E.2.1 + k1)]) (cV E (fun ρ1 => CI r S ρ1)) 0 0 (hA E) := by
  refine ent (own := RX5) (by decide) rfl (Nat.le_of_ble_eq_true rfl) ?_
  intro p e s m below meth c ls B hr hlk hl hP hS
  have hx := B.1.1
  have hb := B.1.2.1
  have hown := B.1.2.2.2.1
  have hts := B.1.2.2.2.2
  have hl : lv_has ls 3 [(0, .ref (E.2.1 + k)), (1, .ref (E.2.1 + k1))] := hl
  have b47_0 : ∀ (ls : Array Slot) (ρ : Nat → Nat → Int32) (H : Heap) (locs : List Loc) (d47 : Nat) (j47_2 : Nat), lv_has ls 3 [(0, .ref (E.2.1 + k)), (1, .ref (E.2.1 + k1)), (2, .int (nI j47_2))] → WP E ρ H → va_S (hA E) s.heap H locs → CI r S ρ → 3 - j47_2 < d47 → 0 ≤ j47_2 → j47_2 ≤ 2 → W p l e (rmk 5 200) s m ([.ref (E.2.1 + k), .ref (E.2.1 + k1)] : List Value).toArray below meth c H locs 0 0 (MQ below (cV E (fun ρ1 => CI r S ρ1)) ([.ref (E.2.1 + k), .ref (E.2.1 + k1)] : List Value).toArray s 0 0 (hA E)) (F0 m 47 ls []) := by
    intro ls ρ H locs d47
    induction d47 generalizing ls ρ H locs with
    | zero => intro j47_2 hl hP hS hI hd47 lj47_2 uj47_2; exact absurd hd47 (Nat.not_lt_zero _)
    | succ d47 ih47 =>
      intro j47_2 hl hP hS hI hd47 lj47_2 uj47_2
      refine lv_iload_n hx hb dX5_copyFrom_47 rfl (lv_at hl 2 rfl) ?_
      refine lv_iconst (v := 2) hx hb dX5_copyFrom_48 (by decide) ?_
      refine lv_icmp_ge (tgt := 73) hx hb dX5_copyFrom_49 (by decide) (fun c37 => ?_) (fun c37 => ?_)
      · skip
        have n38 := mt (nx_lt (a := j47_2) (b := 2) (by omega) (by omega)).mpr (show ¬ (nI j47_2 < nI 2) from (Int32.not_lt.mpr c37))
        refine lv_aload_n hx hb dX5_copyFrom_73 rfl (lv_at hl 0 rfl) ?_
        refine lv_aload_n hx hb dX5_copyFrom_74 rfl (lv_at hl 1 rfl) ?_
        refine get5 B hP h1 4 (by decide) mw_379 rfl dX5_copyFrom_75 ?_
        have i39 : iR (ρ k1 4) 0 6 := CI_get hI (kind_lt h1 (by decide)) h1 rfl
        obtain ⟨j40, lj40, uj40, ej40⟩ := iR_nat (a := 0) (b := 6) i39
        refine lv_topi (fun z41 ez41 => ?_)
        obtain rfl : z41 = nI j40 := ez41.trans ej40
        refine put5 B hP hS h 4 (by decide) mw_379 rfl rfl rfl (fs5_4 E k _ _) dX5_copyFrom_78 (fun H locs hP hS => ?_)
        obtain ⟨ρ42, e43⟩ : ∃ z, z = up ρ k 4 (nI j40) := ⟨_, rfl⟩
        rw [← e43] at hP
        have hI : CI r S ρ42 := by rw [e43]; exact CI_upS hI (kind_lt h (by decide)) (SP_rng h rfl (by decide) (iR_w (a := 0) (b := 6) (nI_iR (j := j40) (a := 0) (b := 6) (by omega) (by omega) (by omega)) (by decide) (by decide))) (fun x hx => RC_ne (hI.2.1 x hx) ((hne x hx).1))
        refine lv_aload_n hx hb dX5_copyFrom_81 rfl (lv_at hl 0 rfl) ?_
        refine lv_aload_n hx hb dX5_copyFrom_82 rfl (lv_at hl 1 rfl) ?_
        refine get5 B hP h1 5 (by decide) mw_381 rfl dX5_copyFrom_83 ?_
        refine put5 B hP hS h 5 (by decide) mw_381 rfl rfl rfl (fs5_5 E k _ _) dX5_copyFrom_86 (fun H locs hP hS => ?_)
        obtain ⟨ρ44, e45⟩ : ∃ z, z = up ρ42 k 5 (ρ42 k1 5) := ⟨_, rfl⟩
        rw [← e45] at hP
        have hI : CI r S ρ44 := by rw [e45]; exact CI_up hI (kind_lt h (by decide)) (SP_plain h rfl (by decide)) ⟨(fun z2 => absurd (Eq.trans (Eq.symm h) z2) (by decide)), (fun _ => by decide)⟩ hSS
        refine lv_aload_n hx hb dX5_copyFrom_89 rfl (lv_at hl 0 rfl) ?_
        refine lv_aload_n hx hb dX5_copyFrom_90 rfl (lv_at hl 1 rfl) ?_
        refine get5 B hP h1 6 (by decide) mw_383 rfl dX5_copyFrom_91 ?_
        refine put5 B hP hS h 6 (by decide) mw_383 rfl rfl rfl (fs5_6 E k _ _) dX5_copyFrom_94 (fun H locs hP hS => ?_)
        obtain ⟨ρ46, e47⟩ : ∃ z, z = up ρ44 k 6 (ρ44 k1 6) := ⟨_, rfl⟩
        rw [← e47] at hP
        have hI : CI r S ρ46 := by rw [e47]; exact CI_up hI (kind_lt h (by decide)) (SP_plain h rfl (by decide)) ⟨(fun z2 => absurd (Eq.trans (Eq.symm h) z2) (by decide)), (fun _ => by decide)⟩ hSS
        refine lv_aload_n hx hb dX5_copyFrom_97 rfl (lv_at hl 0 rfl) ?_
        refine lv_aload_n hx hb dX5_copyFrom_98 rfl (lv_at hl 1 rfl) ?_
        refine get5 B hP h1 7 (by decide) mw_385 rfl dX5_copyFrom_99 ?_
        refine put5 B hP hS h 7 (by decide) mw_385 rfl rfl rfl (fs5_7 E k _ _) dX5_copyFrom_102 (fun H locs hP hS => ?_)
        obtain ⟨ρ48, e49⟩ : ∃ z, z = up ρ46 k 7 (ρ46 k1 7) := ⟨_, rfl⟩
        rw [← e49] at hP
        have hI : CI r S ρ48 := by rw [e49]; exact CI_up hI (kind_lt h (by decide)) (SP_plain h rfl (by decide)) ⟨(fun z2 => absurd (Eq.trans (Eq.symm h) z2) (by decide)), (fun _ => by decide)⟩ hSS
        refine lv_aload_n hx hb dX5_copyFrom_105 rfl (lv_at hl 0 rfl) ?_
        refine lv_aload_n hx hb dX5_copyFrom_106 rfl (lv_at hl 1 rfl) ?_
        refine get5 B hP h1 8 (by decide) mw_387 rfl dX5_copyFrom_107 ?_
        refine put5 B hP hS h 8 (by decide) mw_387 rfl rfl rfl (fs5_8 E k _ _) dX5_copyFrom_110 (fun H locs hP hS => ?_)
        obtain ⟨ρ50, e51⟩ : ∃ z, z = up ρ48 k 8 (ρ48 k1 8) := ⟨_, rfl⟩
        rw [← e51] at hP
        have hI : CI r S ρ50 := by rw [e51]; exact CI_up hI (kind_lt h (by decide)) (SP_plain h rfl (by decide)) ⟨(fun z2 => absurd (Eq.trans (Eq.symm h) z2) (by decide)), (fun _ => by decide)⟩ hSS
        exact ret_v B hr hlk hP hS dX5_copyFrom_113 (hI)
      · skip
        have n52 := (nx_lt (a := j47_2) (b := 2) (by omega) (by omega)).mp (show (nI j47_2 < nI 2) from (Int32.not_le.mp c37))
        refine lv_aload_n hx hb dX5_copyFrom_52 rfl (lv_at hl 0 rfl) ?_
        refine get5 B hP h 3 (by decide) mw_377 rfl dX5_copyFrom_53 ?_
        refine lv_iload_n hx hb dX5_copyFrom_56 rfl (lv_at hl 2 rfl) ?_
        refine aldNn (j := j47_2) B hP (lay5 h).2.2.2.2.2.2.1 (lay5 h).2.2.2.2.2.2.2.1 rfl (by omega) dX5_copyFrom_57 ?_
        refine lv_aload_n hx hb dX5_copyFrom_58 rfl (lv_at hl 1 rfl) ?_
        refine get5 B hP h1 3 (by decide) mw_377 rfl dX5_copyFrom_59 ?_
        refine lv_iload_n hx hb dX5_copyFrom_62 rfl (lv_at hl 2 rfl) ?_
        refine aldNn (j := j47_2) B hP (lay5 h1).2.2.2.2.2.2.1 (lay5 h1).2.2.2.2.2.2.2.1 rfl (by omega) dX5_copyFrom_63 ?_
        refine call_v (cVt (k := ((k + 4) + 1 + 42 * j47_2)) (av := [.ref (E.2.1 + ((k1 + 4) + 1 + 42 * j47_2))]) (rest := []) B hP hS (d_X2_copyFrom l E ρ r S hSS ((k + 4) + 1 + 42 * j47_2) (lay5n (n := j47_2) h (by omega)) ((k1 + 4) + 1 + 42 * j47_2) (lay5n (n := j47_2) h1 (by omega)) hI (fun x hx => by have := hne x hx; omega)) lk_RX5_53 (hrecv (ci := 2) B hP (hk_lt (c := 2) (lay5n (n := j47_2) h (by omega)) (by decide)) (hcc2 _ _ (lay5n (n := j47_2) h (by omega))) rfl) rfl rfl hl.1 (Nat.le_of_ble_eq_true rfl) ⟨Nat.le_of_ble_eq_true rfl, Nat.le_of_ble_eq_true rfl⟩ ⟨Nat.le_of_ble_eq_true rfl, Nat.le_of_ble_eq_true rfl⟩ dX5_copyFrom_64) hS (fun ρ54 H locs q55 hP hS => ?_)
        have hI := q55
        refine lv_iinc (v := (nI (1 + j47_2))) (lv' := [(2, .int (nI (1 + j47_2))), (0, .ref (E.2.1 + k)), (1, .ref (E.2.1 + k1))]) hx hb dX5_copyFrom_67 hl (k := 2) rfl (show nI j47_2 + nI 1 = _ from (nI_add _ _).trans (congrArg nI (by omega))) (by decide) rfl (fun ls hl => ?_)
        refine lv_goto (tgt := 47) hx hb dX5_copyFrom_70 (by decide) ?_
        exact ih47 ls ρ54 _ _ (1 + j47_2) (lv_sub hl [1, 2, 0] rfl) hP hS hI (by omega) (by omega) (by omega)
  refine lv_aload_n hx hb dX5_copyFrom_0 rfl (lv_at hl 1 rfl) ?_
  refine get5 B hP h1 0 (by decide) mw_371 rfl dX5_copyFrom_1 ?_
  refine lv_iconst (v := 0) hx hb dX5_copyFrom_4 (by decide) ?_
  refine lv_aload_n hx hb dX5_copyFrom_5 rfl (lv_at hl 0 rfl) ?_
  refine get5 B hP h 0 (by decide) mw_371 rfl dX5_copyFrom_6 ?_
  refine lv_iconst (v := 0) hx hb dX5_copyFrom_9 (by decide) ?_
  refine lv_bipush (v := 6) hx hb dX5_copyFrom_10 (by decide) ?_
  refine acopy (n := 6) B hP hS (lay5 h1).1 (lay5 h).1 (lay5 h1).2.1 (lay5 h).2.1 rfl (by decide) hl.1 mw_470 mw_472 mw_471 mw_60 (Nat.le_of_ble_eq_true rfl) (Nat.le_of_ble_eq_true rfl) dX5_copyFrom_12 (fun H locs hP hS => ?_)
  obtain ⟨ρ57, e58⟩ : ∃ z, z = upc ρ (k + 1) (va_cpy (ρ (k1 + 1)) (ρ (k + 1)) 0 0 6) := ⟨_, rfl⟩
  rw [← e58] at hP
  have hI : CI r S ρ57 := by rw [e58]; exact CI_upc hI (by have := lay5l h; omega) (lay5 h).1 hSS
  refine lv_aload_n hx hb dX5_copyFrom_15 rfl (lv_at hl 1 rfl) ?_
  refine get5 B hP h1 1 (by decide) mw_373 rfl dX5_copyFrom_16 ?_
  refine lv_iconst (v := 0) hx hb dX5_copyFrom_19 (by decide) ?_
  refine lv_aload_n hx hb dX5_copyFrom_20 rfl (lv_at hl 0 rfl) ?_
  refine get5 B hP h 1 (by decide) mw_373 rfl dX5_copyFrom_21 ?_
  refine lv_iconst (v := 0) hx hb dX5_copyFrom_24 (by decide) ?_
  refine lv_bipush (v := 23) hx hb dX5_copyFrom_25 (by decide) ?_
  refine acopy (n := 23) B hP hS (lay5 h1).2.2.1 (lay5 h).2.2.1 (lay5 h1).2.2.2.1 (lay5 h).2.2.2.1 rfl (by decide) hl.1 mw_470 mw_472 mw_471 mw_60 (Nat.le_of_ble_eq_true rfl) (Nat.le_of_ble_eq_true rfl) dX5_copyFrom_27 (fun H locs hP hS => ?_)
  obtain ⟨ρ59, e60⟩ : ∃ z, z = upc ρ57 (k + 2) (va_cpy (ρ57 (k1 + 2)) (ρ57 (k + 2)) 0 0 23) := ⟨_, rfl⟩
  rw [← e60] at hP
  have hI : CI r S ρ59 := by rw [e60]; exact CI_upc hI (by have := lay5l h; omega) (lay5 h).2.2.1 hSS
  refine lv_aload_n hx hb dX5_copyFrom_30 rfl (lv_at hl 1 rfl) ?_
  refine get5 B hP h1 2 (by decide) mw_375 rfl dX5_copyFrom_31 ?_
  refine lv_iconst (v := 0) hx hb dX5_copyFrom_34 (by decide) ?_
  refine lv_aload_n hx hb dX5_copyFrom_35 rfl (lv_at hl 0 rfl) ?_
  refine get5 B hP h 2 (by decide) mw_375 rfl dX5_copyFrom_36 ?_
  refine lv_iconst (v := 0) hx hb dX5_copyFrom_39 (by decide) ?_
  refine lv_bipush (v := 9) hx hb dX5_copyFrom_40 (by decide) ?_
  refine acopy (n := 9) B hP hS (lay5 h1).2.2.2.2.1 (lay5 h).2.2.2.2.1 (lay5 h1).2.2.2.2.2.1 (lay5 h).2.2.2.2.2.1 rfl (by decide) hl.1 mw_470 mw_472 mw_471 mw_60 (Nat.le_of_ble_eq_true rfl) (Nat.le_of_ble_eq_true rfl) dX5_copyFrom_42 (fun H locs hP hS => ?_)
  obtain ⟨ρ61, e62⟩ : ∃ z, z = upc ρ59 (k + 3) (va_cpy (ρ59 (k1 + 3)) (ρ59 (k + 3)) 0 0 9) := ⟨_, rfl⟩
  rw [← e62] at hP
  have hI : CI r S ρ61 := by rw [e62]; exact CI_upc hI (by have := lay5l h; omega) (lay5 h).2.2.2.2.1 hSS
  refine lv_iconst (v := 0) hx hb dX5_copyFrom_45 (by decide) ?_
  refine lv_istore_n (lv' := [(2, .int 0), (0, .ref (E.2.1 + k)), (1, .ref (E.2.1 + k1))]) hx hb dX5_copyFrom_46 rfl hl (by decide) rfl (fun ls hl => ?_)
  exact b47_0 ls ρ61 _ _ _ 0 (lv_sub hl [1, 2, 0] rfl) hP hS hI (Nat.lt_succ_self _) (by omega) (by omega)
