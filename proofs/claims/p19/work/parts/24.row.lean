theorem dX7_netAt_0 : decode cX7_netAt 0 = .ok (.bipush 42, 2) := by decide +kernel
theorem dX7_netAt_2 : decode cX7_netAt 2 = .ok (.sipush 326, 3) := by decide +kernel
theorem dX7_netAt_5 : decode cX7_netAt 5 = .ok (.iload_n 0, 1) := by decide +kernel
theorem dX7_netAt_6 : decode cX7_netAt 6 = .ok (.imul, 1) := by decide +kernel
theorem dX7_netAt_7 : decode cX7_netAt 7 = .ok (.iadd, 1) := by decide +kernel
theorem dX7_netAt_8 : decode cX7_netAt 8 = .ok (.ireturn, 1) := by decide +kernel
theorem dX7_linkAt_0 : decode cX7_linkAt 0 = .ok (.iload_n 0, 1) := by decide +kernel
theorem dX7_linkAt_1 : decode cX7_linkAt 1 = .ok (.invokestatic 75, 3) := by decide +kernel
theorem dX7_linkAt_4 : decode cX7_linkAt 4 = .ok (.bipush 62, 2) := by decide +kernel
theorem dX7_linkAt_6 : decode cX7_linkAt 6 = .ok (.iadd, 1) := by decide +kernel
theorem dX7_linkAt_7 : decode cX7_linkAt 7 = .ok (.bipush 66, 2) := by decide +kernel
theorem dX7_linkAt_9 : decode cX7_linkAt 9 = .ok (.iload_n 1, 1) := by decide +kernel
theorem dX7_linkAt_10 : decode cX7_linkAt 10 = .ok (.imul, 1) := by decide +kernel
theorem dX7_linkAt_11 : decode cX7_linkAt 11 = .ok (.iadd, 1) := by decide +kernel
theorem dX7_linkAt_12 : decode cX7_linkAt 12 = .ok (.ireturn, 1) := by decide +kernel
theorem dX7_isNet_0 : decode cX7_isNet 0 = .ok (.iload_n 1, 1) := by decide +kernel
theorem dX7_isNet_1 : decode cX7_isNet 1 = .ok (.i2l, 1) := by decide +kernel
theorem dX7_isNet_2 : decode cX7_isNet 2 = .ok (.lconst 0, 1) := by decide +kernel
theorem dX7_isNet_3 : decode cX7_isNet 3 = .ok (.lconst 1, 1) := by decide +kernel
theorem dX7_isNet_4 : decode cX7_isNet 4 = .ok (.invokestatic 71, 3) := by decide +kernel
theorem dX7_isNet_7 : decode cX7_isNet 7 = .ok (.ifCond .eq 20, 3) := by decide +kernel
theorem dX7_isNet_10 : decode cX7_isNet 10 = .ok (.aload_n 0, 1) := by decide +kernel
theorem dX7_isNet_11 : decode cX7_isNet 11 = .ok (.getfield 13, 3) := by decide +kernel
theorem dX7_isNet_14 : decode cX7_isNet 14 = .ok (.iload_n 1, 1) := by decide +kernel
theorem dX7_isNet_15 : decode cX7_isNet 15 = .ok (.invokestatic 75, 3) := by decide +kernel
theorem dX7_isNet_18 : decode cX7_isNet 18 = .ok (.iaload, 1) := by decide +kernel
theorem dX7_isNet_19 : decode cX7_isNet 19 = .ok (.iconst (-1), 1) := by decide +kernel
theorem dX7_isNet_20 : decode cX7_isNet 20 = .ok (.if_icmp .eq 7, 3) := by decide +kernel
theorem dX7_isNet_23 : decode cX7_isNet 23 = .ok (.iconst 1, 1) := by decide +kernel
theorem dX7_isNet_24 : decode cX7_isNet 24 = .ok (.goto 4, 3) := by decide +kernel
theorem dX7_isNet_27 : decode cX7_isNet 27 = .ok (.iconst 0, 1) := by decide +kernel
theorem dX7_isNet_28 : decode cX7_isNet 28 = .ok (.ireturn, 1) := by decide +kernel
theorem dX7_isRadio_0 : decode cX7_isRadio 0 = .ok (.iload_n 1, 1) := by decide +kernel
theorem dX7_isRadio_1 : decode cX7_isRadio 1 = .ok (.i2l, 1) := by decide +kernel
theorem dX7_isRadio_2 : decode cX7_isRadio 2 = .ok (.lconst 0, 1) := by decide +kernel
theorem dX7_isRadio_3 : decode cX7_isRadio 3 = .ok (.aload_n 0, 1) := by decide +kernel
theorem dX7_isRadio_4 : decode cX7_isRadio 4 = .ok (.getfield 13, 3) := by decide +kernel
theorem dX7_isRadio_7 : decode cX7_isRadio 7 = .ok (.iconst 0, 1) := by decide +kernel
theorem dX7_isRadio_8 : decode cX7_isRadio 8 = .ok (.iaload, 1) := by decide +kernel
theorem dX7_isRadio_9 : decode cX7_isRadio 9 = .ok (.i2l, 1) := by decide +kernel
theorem dX7_isRadio_10 : decode cX7_isRadio 10 = .ok (.lconst 1, 1) := by decide +kernel
theorem dX7_isRadio_11 : decode cX7_isRadio 11 = .ok (.lsub, 1) := by decide +kernel
theorem dX7_isRadio_12 : decode cX7_isRadio 12 = .ok (.invokestatic 71, 3) := by decide +kernel
theorem dX7_isRadio_15 : decode cX7_isRadio 15 = .ok (.ireturn, 1) := by decide +kernel
theorem dX7_isLink_0 : decode cX7_isLink 0 = .ok (.aload_n 0, 1) := by decide +kernel
theorem dX7_isLink_1 : decode cX7_isLink 1 = .ok (.iload_n 1, 1) := by decide +kernel
theorem dX7_isLink_2 : decode cX7_isLink 2 = .ok (.invokevirtual 78, 3) := by decide +kernel
theorem dX7_isLink_5 : decode cX7_isLink 5 = .ok (.ifCond .eq 31, 3) := by decide +kernel
theorem dX7_isLink_8 : decode cX7_isLink 8 = .ok (.iload_n 2, 1) := by decide +kernel
theorem dX7_isLink_9 : decode cX7_isLink 9 = .ok (.i2l, 1) := by decide +kernel
theorem dX7_isLink_10 : decode cX7_isLink 10 = .ok (.lconst 0, 1) := by decide +kernel
theorem dX7_isLink_11 : decode cX7_isLink 11 = .ok (.aload_n 0, 1) := by decide +kernel
theorem dX7_isLink_12 : decode cX7_isLink 12 = .ok (.getfield 13, 3) := by decide +kernel
theorem dX7_isLink_15 : decode cX7_isLink 15 = .ok (.iload_n 1, 1) := by decide +kernel
theorem dX7_isLink_16 : decode cX7_isLink 16 = .ok (.invokestatic 75, 3) := by decide +kernel
theorem dX7_isLink_19 : decode cX7_isLink 19 = .ok (.bipush 6, 2) := by decide +kernel
theorem dX7_isLink_21 : decode cX7_isLink 21 = .ok (.iadd, 1) := by decide +kernel
theorem dX7_isLink_22 : decode cX7_isLink 22 = .ok (.iaload, 1) := by decide +kernel
theorem dX7_isLink_23 : decode cX7_isLink 23 = .ok (.i2l, 1) := by decide +kernel
theorem dX7_isLink_24 : decode cX7_isLink 24 = .ok (.lconst 1, 1) := by decide +kernel
theorem dX7_isLink_25 : decode cX7_isLink 25 = .ok (.lsub, 1) := by decide +kernel
theorem dX7_isLink_26 : decode cX7_isLink 26 = .ok (.invokestatic 71, 3) := by decide +kernel
theorem dX7_isLink_29 : decode cX7_isLink 29 = .ok (.ifCond .eq 7, 3) := by decide +kernel
theorem dX7_isLink_32 : decode cX7_isLink 32 = .ok (.iconst 1, 1) := by decide +kernel
theorem dX7_isLink_33 : decode cX7_isLink 33 = .ok (.goto 4, 3) := by decide +kernel
theorem dX7_isLink_36 : decode cX7_isLink 36 = .ok (.iconst 0, 1) := by decide +kernel
theorem dX7_isLink_37 : decode cX7_isLink 37 = .ok (.ireturn, 1) := by decide +kernel
theorem dX7_isIn_0 : decode cX7_isIn 0 = .ok (.aload_n 0, 1) := by decide +kernel
theorem dX7_isIn_1 : decode cX7_isIn 1 = .ok (.iload_n 1, 1) := by decide +kernel
theorem dX7_isIn_2 : decode cX7_isIn 2 = .ok (.invokevirtual 78, 3) := by decide +kernel
theorem dX7_isIn_5 : decode cX7_isIn 5 = .ok (.ifCond .eq 20, 3) := by decide +kernel
theorem dX7_isIn_8 : decode cX7_isIn 8 = .ok (.aload_n 0, 1) := by decide +kernel
theorem dX7_isIn_9 : decode cX7_isIn 9 = .ok (.getfield 13, 3) := by decide +kernel
theorem dX7_isIn_12 : decode cX7_isIn 12 = .ok (.iload_n 1, 1) := by decide +kernel
theorem dX7_isIn_13 : decode cX7_isIn 13 = .ok (.invokestatic 75, 3) := by decide +kernel
theorem dX7_isIn_16 : decode cX7_isIn 16 = .ok (.iaload, 1) := by decide +kernel
theorem dX7_isIn_17 : decode cX7_isIn 17 = .ok (.iload_n 2, 1) := by decide +kernel
theorem dX7_isIn_18 : decode cX7_isIn 18 = .ok (.if_icmp .ne 7, 3) := by decide +kernel
theorem dX7_isIn_21 : decode cX7_isIn 21 = .ok (.iconst 1, 1) := by decide +kernel
theorem dX7_isIn_22 : decode cX7_isIn 22 = .ok (.goto 4, 3) := by decide +kernel
theorem dX7_isIn_25 : decode cX7_isIn 25 = .ok (.iconst 0, 1) := by decide +kernel
theorem dX7_isIn_26 : decode cX7_isIn 26 = .ok (.istore_n 3, 1) := by decide +kernel
theorem dX7_isIn_27 : decode cX7_isIn 27 = .ok (.iconst 0, 1) := by decide +kernel
theorem dX7_isIn_28 : decode cX7_isIn 28 = .ok (.istore 4, 2) := by decide +kernel
theorem dX7_isIn_30 : decode cX7_isIn 30 = .ok (.aload_n 0, 1) := by decide +kernel
theorem dX7_isIn_31 : decode cX7_isIn 31 = .ok (.iload_n 1, 1) := by decide +kernel
theorem dX7_isIn_32 : decode cX7_isIn 32 = .ok (.invokevirtual 78, 3) := by decide +kernel
theorem dX7_isIn_35 : decode cX7_isIn 35 = .ok (.ifCond .eq 51, 3) := by decide +kernel
theorem dX7_isIn_38 : decode cX7_isIn 38 = .ok (.iload 4, 2) := by decide +kernel
theorem dX7_isIn_40 : decode cX7_isIn 40 = .ok (.aload_n 0, 1) := by decide +kernel
theorem dX7_isIn_41 : decode cX7_isIn 41 = .ok (.getfield 13, 3) := by decide +kernel
theorem dX7_isIn_44 : decode cX7_isIn 44 = .ok (.iload_n 1, 1) := by decide +kernel
theorem dX7_isIn_45 : decode cX7_isIn 45 = .ok (.invokestatic 75, 3) := by decide +kernel
theorem dX7_isIn_48 : decode cX7_isIn 48 = .ok (.bipush 6, 2) := by decide +kernel
theorem dX7_isIn_50 : decode cX7_isIn 50 = .ok (.iadd, 1) := by decide +kernel
theorem dX7_isIn_51 : decode cX7_isIn 51 = .ok (.iaload, 1) := by decide +kernel
theorem dX7_isIn_52 : decode cX7_isIn 52 = .ok (.if_icmp .ge 34, 3) := by decide +kernel
theorem dX7_isIn_55 : decode cX7_isIn 55 = .ok (.iload_n 3, 1) := by decide +kernel
theorem dX7_isIn_56 : decode cX7_isIn 56 = .ok (.ifCond .ne 18, 3) := by decide +kernel
theorem dX7_isIn_59 : decode cX7_isIn 59 = .ok (.aload_n 0, 1) := by decide +kernel
theorem dX7_isIn_60 : decode cX7_isIn 60 = .ok (.getfield 13, 3) := by decide +kernel
theorem dX7_isIn_63 : decode cX7_isIn 63 = .ok (.iload_n 1, 1) := by decide +kernel
theorem dX7_isIn_64 : decode cX7_isIn 64 = .ok (.iload 4, 2) := by decide +kernel
theorem dX7_isIn_66 : decode cX7_isIn 66 = .ok (.invokestatic 82, 3) := by decide +kernel
theorem dX7_isIn_69 : decode cX7_isIn 69 = .ok (.iaload, 1) := by decide +kernel
theorem dX7_isIn_70 : decode cX7_isIn 70 = .ok (.iload_n 2, 1) := by decide +kernel
theorem dX7_isIn_71 : decode cX7_isIn 71 = .ok (.if_icmp .ne 7, 3) := by decide +kernel
theorem dX7_isIn_74 : decode cX7_isIn 74 = .ok (.iconst 1, 1) := by decide +kernel
theorem dX7_isIn_75 : decode cX7_isIn 75 = .ok (.goto 4, 3) := by decide +kernel
theorem dX7_isIn_78 : decode cX7_isIn 78 = .ok (.iconst 0, 1) := by decide +kernel
theorem dX7_isIn_79 : decode cX7_isIn 79 = .ok (.istore_n 3, 1) := by decide +kernel
theorem dX7_isIn_80 : decode cX7_isIn 80 = .ok (.iinc 4 1, 3) := by decide +kernel
theorem dX7_isIn_83 : decode cX7_isIn 83 = .ok (.goto (-53), 3) := by decide +kernel
theorem dX7_isIn_86 : decode cX7_isIn 86 = .ok (.iload_n 3, 1) := by decide +kernel
theorem dX7_isIn_87 : decode cX7_isIn 87 = .ok (.ireturn, 1) := by decide +kernel
theorem dX7_isHere_0 : decode cX7_isHere 0 = .ok (.aload_n 0, 1) := by decide +kernel
theorem dX7_isHere_1 : decode cX7_isHere 1 = .ok (.iload_n 1, 1) := by decide +kernel
theorem dX7_isHere_2 : decode cX7_isHere 2 = .ok (.iload_n 2, 1) := by decide +kernel
theorem dX7_isHere_3 : decode cX7_isHere 3 = .ok (.invokevirtual 86, 3) := by decide +kernel
theorem dX7_isHere_6 : decode cX7_isHere 6 = .ok (.ifCond .eq 49, 3) := by decide +kernel
theorem dX7_isHere_9 : decode cX7_isHere 9 = .ok (.aload_n 0, 1) := by decide +kernel
theorem dX7_isHere_10 : decode cX7_isHere 10 = .ok (.iconst 1, 1) := by decide +kernel
theorem dX7_isHere_11 : decode cX7_isHere 11 = .ok (.iload_n 1, 1) := by decide +kernel
theorem dX7_isHere_12 : decode cX7_isHere 12 = .ok (.isub, 1) := by decide +kernel
theorem dX7_isHere_13 : decode cX7_isHere 13 = .ok (.iload_n 2, 1) := by decide +kernel
theorem dX7_isHere_14 : decode cX7_isHere 14 = .ok (.invokevirtual 86, 3) := by decide +kernel
theorem dX7_isHere_17 : decode cX7_isHere 17 = .ok (.ifCond .eq 34, 3) := by decide +kernel
theorem dX7_isHere_20 : decode cX7_isHere 20 = .ok (.iload_n 3, 1) := by decide +kernel
theorem dX7_isHere_21 : decode cX7_isHere 21 = .ok (.bipush 32, 2) := by decide +kernel
theorem dX7_isHere_23 : decode cX7_isHere 23 = .ok (.irem, 1) := by decide +kernel
theorem dX7_isHere_24 : decode cX7_isHere 24 = .ok (.aload_n 0, 1) := by decide +kernel
theorem dX7_isHere_25 : decode cX7_isHere 25 = .ok (.getfield 13, 3) := by decide +kernel
theorem dX7_isHere_28 : decode cX7_isHere 28 = .ok (.bipush 9, 2) := by decide +kernel
theorem dX7_isHere_30 : decode cX7_isHere 30 = .ok (.iaload, 1) := by decide +kernel
theorem dX7_isHere_31 : decode cX7_isHere 31 = .ok (.if_icmp .ge 7, 3) := by decide +kernel
theorem dX7_isHere_34 : decode cX7_isHere 34 = .ok (.iconst 1, 1) := by decide +kernel
theorem dX7_isHere_35 : decode cX7_isHere 35 = .ok (.goto 4, 3) := by decide +kernel
theorem dX7_isHere_38 : decode cX7_isHere 38 = .ok (.iconst 0, 1) := by decide +kernel
theorem dX7_isHere_39 : decode cX7_isHere 39 = .ok (.iload_n 1, 1) := by decide +kernel
theorem dX7_isHere_40 : decode cX7_isHere 40 = .ok (.ifCond .ne 7, 3) := by decide +kernel
theorem dX7_isHere_43 : decode cX7_isHere 43 = .ok (.iconst 1, 1) := by decide +kernel
theorem dX7_isHere_44 : decode cX7_isHere 44 = .ok (.goto 4, 3) := by decide +kernel
theorem dX7_isHere_47 : decode cX7_isHere 47 = .ok (.iconst 0, 1) := by decide +kernel
theorem dX7_isHere_48 : decode cX7_isHere 48 = .ok (.if_icmp .ne 7, 3) := by decide +kernel
theorem dX7_isHere_51 : decode cX7_isHere 51 = .ok (.iconst 1, 1) := by decide +kernel
theorem dX7_isHere_52 : decode cX7_isHere 52 = .ok (.goto 4, 3) := by decide +kernel
theorem dX7_isHere_55 : decode cX7_isHere 55 = .ok (.iconst 0, 1) := by decide +kernel
theorem dX7_isHere_56 : decode cX7_isHere 56 = .ok (.ireturn, 1) := by decide +kernel
theorem dX7_byMap_0 : decode cX7_byMap 0 = .ok (.iload_n 0, 1) := by decide +kernel
theorem dX7_byMap_1 : decode cX7_byMap 1 = .ok (.iload_n 1, 1) := by decide +kernel
theorem dX7_byMap_2 : decode cX7_byMap 2 = .ok (.ishr, 1) := by decide +kernel
theorem dX7_byMap_3 : decode cX7_byMap 3 = .ok (.iconst 1, 1) := by decide +kernel
theorem dX7_byMap_4 : decode cX7_byMap 4 = .ok (.iand, 1) := by decide +kernel
theorem dX7_byMap_5 : decode cX7_byMap 5 = .ok (.iconst 1, 1) := by decide +kernel
theorem dX7_byMap_6 : decode cX7_byMap 6 = .ok (.if_icmp .ne 5, 3) := by decide +kernel
theorem dX7_byMap_9 : decode cX7_byMap 9 = .ok (.iload_n 1, 1) := by decide +kernel
theorem dX7_byMap_10 : decode cX7_byMap 10 = .ok (.ireturn, 1) := by decide +kernel
theorem dX7_byMap_11 : decode cX7_byMap 11 = .ok (.iload_n 1, 1) := by decide +kernel
theorem dX7_byMap_12 : decode cX7_byMap 12 = .ok (.iload_n 0, 1) := by decide +kernel
theorem dX7_byMap_13 : decode cX7_byMap 13 = .ok (.invokestatic 93, 3) := by decide +kernel
theorem dX7_byMap_16 : decode cX7_byMap 16 = .ok (.irem, 1) := by decide +kernel
theorem dX7_byMap_17 : decode cX7_byMap 17 = .ok (.istore_n 2, 1) := by decide +kernel
theorem dX7_byMap_18 : decode cX7_byMap 18 = .ok (.iconst 0, 1) := by decide +kernel
theorem dX7_byMap_19 : decode cX7_byMap 19 = .ok (.istore_n 3, 1) := by decide +kernel
theorem dX7_byMap_20 : decode cX7_byMap 20 = .ok (.iload_n 0, 1) := by decide +kernel
theorem dX7_byMap_21 : decode cX7_byMap 21 = .ok (.iload_n 3, 1) := by decide +kernel
theorem dX7_byMap_22 : decode cX7_byMap 22 = .ok (.ishr, 1) := by decide +kernel
theorem dX7_byMap_23 : decode cX7_byMap 23 = .ok (.iconst 1, 1) := by decide +kernel
theorem dX7_byMap_24 : decode cX7_byMap 24 = .ok (.iand, 1) := by decide +kernel
theorem dX7_byMap_25 : decode cX7_byMap 25 = .ok (.ifCond .eq 7, 3) := by decide +kernel
theorem dX7_byMap_28 : decode cX7_byMap 28 = .ok (.iload_n 2, 1) := by decide +kernel
theorem dX7_byMap_29 : decode cX7_byMap 29 = .ok (.ifCond .le 17, 3) := by decide +kernel
theorem dX7_byMap_32 : decode cX7_byMap 32 = .ok (.iload_n 2, 1) := by decide +kernel
theorem dX7_byMap_33 : decode cX7_byMap 33 = .ok (.iload_n 0, 1) := by decide +kernel
theorem dX7_byMap_34 : decode cX7_byMap 34 = .ok (.iload_n 3, 1) := by decide +kernel
theorem dX7_byMap_35 : decode cX7_byMap 35 = .ok (.ishr, 1) := by decide +kernel
theorem dX7_byMap_36 : decode cX7_byMap 36 = .ok (.iconst 1, 1) := by decide +kernel
theorem dX7_byMap_37 : decode cX7_byMap 37 = .ok (.iand, 1) := by decide +kernel
theorem dX7_byMap_38 : decode cX7_byMap 38 = .ok (.isub, 1) := by decide +kernel
theorem dX7_byMap_39 : decode cX7_byMap 39 = .ok (.istore_n 2, 1) := by decide +kernel
theorem dX7_byMap_40 : decode cX7_byMap 40 = .ok (.iinc 3 1, 3) := by decide +kernel
theorem dX7_byMap_43 : decode cX7_byMap 43 = .ok (.goto (-23), 3) := by decide +kernel
theorem dX7_byMap_46 : decode cX7_byMap 46 = .ok (.iload_n 3, 1) := by decide +kernel
theorem dX7_byMap_47 : decode cX7_byMap 47 = .ok (.ireturn, 1) := by decide +kernel
theorem dX7_hopOf_0 : decode cX7_hopOf 0 = .ok (.iload_n 1, 1) := by decide +kernel
theorem dX7_hopOf_1 : decode cX7_hopOf 1 = .ok (.invokestatic 75, 3) := by decide +kernel
theorem dX7_hopOf_4 : decode cX7_hopOf 4 = .ok (.istore 4, 2) := by decide +kernel
theorem dX7_hopOf_6 : decode cX7_hopOf 6 = .ok (.iload_n 3, 1) := by decide +kernel
theorem dX7_hopOf_7 : decode cX7_hopOf 7 = .ok (.aload_n 0, 1) := by decide +kernel
theorem dX7_hopOf_8 : decode cX7_hopOf 8 = .ok (.getfield 13, 3) := by decide +kernel
theorem dX7_hopOf_11 : decode cX7_hopOf 11 = .ok (.iconst 1, 1) := by decide +kernel
theorem dX7_hopOf_12 : decode cX7_hopOf 12 = .ok (.aload_n 0, 1) := by decide +kernel
theorem dX7_hopOf_13 : decode cX7_hopOf 13 = .ok (.getfield 13, 3) := by decide +kernel
theorem dX7_hopOf_16 : decode cX7_hopOf 16 = .ok (.iload 4, 2) := by decide +kernel
theorem dX7_hopOf_18 : decode cX7_hopOf 18 = .ok (.iaload, 1) := by decide +kernel
theorem dX7_hopOf_19 : decode cX7_hopOf 19 = .ok (.iadd, 1) := by decide +kernel
theorem dX7_hopOf_20 : decode cX7_hopOf 20 = .ok (.iaload, 1) := by decide +kernel
theorem dX7_hopOf_21 : decode cX7_hopOf 21 = .ok (.iload_n 2, 1) := by decide +kernel
theorem dX7_hopOf_22 : decode cX7_hopOf 22 = .ok (.aload_n 0, 1) := by decide +kernel
theorem dX7_hopOf_23 : decode cX7_hopOf 23 = .ok (.getfield 13, 3) := by decide +kernel
theorem dX7_hopOf_26 : decode cX7_hopOf 26 = .ok (.iload 4, 2) := by decide +kernel
theorem dX7_hopOf_28 : decode cX7_hopOf 28 = .ok (.iconst 1, 1) := by decide +kernel
theorem dX7_hopOf_29 : decode cX7_hopOf 29 = .ok (.iadd, 1) := by decide +kernel
theorem dX7_hopOf_30 : decode cX7_hopOf 30 = .ok (.iaload, 1) := by decide +kernel
theorem dX7_hopOf_31 : decode cX7_hopOf 31 = .ok (.iadd, 1) := by decide +kernel
theorem dX7_hopOf_32 : decode cX7_hopOf 32 = .ok (.invokestatic 96, 3) := by decide +kernel
theorem dX7_hopOf_35 : decode cX7_hopOf 35 = .ok (.invokestatic 99, 3) := by decide +kernel
theorem dX7_hopOf_38 : decode cX7_hopOf 38 = .ok (.ireturn, 1) := by decide +kernel
theorem dX7_isShare_0 : decode cX7_isShare 0 = .ok (.iload_n 0, 1) := by decide +kernel
theorem dX7_isShare_1 : decode cX7_isShare 1 = .ok (.i2l, 1) := by decide +kernel
theorem dX7_isShare_2 : decode cX7_isShare 2 = .ok (.lconst 0, 1) := by decide +kernel
theorem dX7_isShare_3 : decode cX7_isShare 3 = .ok (.ldc2_w 132, 3) := by decide +kernel
theorem dX7_isShare_6 : decode cX7_isShare 6 = .ok (.invokestatic 71, 3) := by decide +kernel
theorem dX7_isShare_9 : decode cX7_isShare 9 = .ok (.ifCond .eq 13, 3) := by decide +kernel
theorem dX7_isShare_12 : decode cX7_isShare 12 = .ok (.iload_n 0, 1) := by decide +kernel
theorem dX7_isShare_13 : decode cX7_isShare 13 = .ok (.iconst 2, 1) := by decide +kernel
theorem dX7_isShare_14 : decode cX7_isShare 14 = .ok (.irem, 1) := by decide +kernel
theorem dX7_isShare_15 : decode cX7_isShare 15 = .ok (.ifCond .ne 7, 3) := by decide +kernel
theorem dX7_isShare_18 : decode cX7_isShare 18 = .ok (.iconst 1, 1) := by decide +kernel
theorem dX7_isShare_19 : decode cX7_isShare 19 = .ok (.goto 4, 3) := by decide +kernel
theorem dX7_isShare_22 : decode cX7_isShare 22 = .ok (.iconst 0, 1) := by decide +kernel
theorem dX7_isShare_23 : decode cX7_isShare 23 = .ok (.ireturn, 1) := by decide +kernel
theorem dX7_isEven_0 : decode cX7_isEven 0 = .ok (.iload_n 0, 1) := by decide +kernel
theorem dX7_isEven_1 : decode cX7_isEven 1 = .ok (.i2l, 1) := by decide +kernel
theorem dX7_isEven_2 : decode cX7_isEven 2 = .ok (.iload_n 1, 1) := by decide +kernel
theorem dX7_isEven_3 : decode cX7_isEven 3 = .ok (.i2l, 1) := by decide +kernel
theorem dX7_isEven_4 : decode cX7_isEven 4 = .ok (.iload_n 2, 1) := by decide +kernel
theorem dX7_isEven_5 : decode cX7_isEven 5 = .ok (.i2l, 1) := by decide +kernel
theorem dX7_isEven_6 : decode cX7_isEven 6 = .ok (.invokestatic 71, 3) := by decide +kernel
theorem dX7_isEven_9 : decode cX7_isEven 9 = .ok (.ifCond .eq 13, 3) := by decide +kernel
theorem dX7_isEven_12 : decode cX7_isEven 12 = .ok (.iload_n 0, 1) := by decide +kernel
theorem dX7_isEven_13 : decode cX7_isEven 13 = .ok (.iconst 2, 1) := by decide +kernel
theorem dX7_isEven_14 : decode cX7_isEven 14 = .ok (.irem, 1) := by decide +kernel
theorem dX7_isEven_15 : decode cX7_isEven 15 = .ok (.ifCond .ne 7, 3) := by decide +kernel
theorem dX7_isEven_18 : decode cX7_isEven 18 = .ok (.iconst 1, 1) := by decide +kernel
theorem dX7_isEven_19 : decode cX7_isEven 19 = .ok (.goto 4, 3) := by decide +kernel
theorem dX7_isEven_22 : decode cX7_isEven 22 = .ok (.iconst 0, 1) := by decide +kernel
theorem dX7_isEven_23 : decode cX7_isEven 23 = .ok (.ireturn, 1) := by decide +kernel
theorem dX7_comes_0 : decode cX7_comes 0 = .ok (.aload_n 0, 1) := by decide +kernel
theorem dX7_comes_1 : decode cX7_comes 1 = .ok (.getfield 13, 3) := by decide +kernel
theorem dX7_comes_4 : decode cX7_comes 4 = .ok (.iload_n 2, 1) := by decide +kernel
theorem dX7_comes_5 : decode cX7_comes 5 = .ok (.aload_n 0, 1) := by decide +kernel
theorem dX7_comes_6 : decode cX7_comes 6 = .ok (.getfield 13, 3) := by decide +kernel
theorem dX7_comes_9 : decode cX7_comes 9 = .ok (.iload_n 1, 1) := by decide +kernel
theorem dX7_comes_10 : decode cX7_comes 10 = .ok (.iaload, 1) := by decide +kernel
theorem dX7_comes_11 : decode cX7_comes 11 = .ok (.iadd, 1) := by decide +kernel
theorem dX7_comes_12 : decode cX7_comes 12 = .ok (.iload 4, 2) := by decide +kernel
theorem dX7_comes_14 : decode cX7_comes 14 = .ok (.iastore, 1) := by decide +kernel
theorem dX7_comes_15 : decode cX7_comes 15 = .ok (.aload_n 0, 1) := by decide +kernel
theorem dX7_comes_16 : decode cX7_comes 16 = .ok (.getfield 13, 3) := by decide +kernel
theorem dX7_comes_19 : decode cX7_comes 19 = .ok (.iload_n 1, 1) := by decide +kernel
theorem dX7_comes_20 : decode cX7_comes 20 = .ok (.iconst 1, 1) := by decide +kernel
theorem dX7_comes_21 : decode cX7_comes 21 = .ok (.iadd, 1) := by decide +kernel
theorem dX7_comes_22 : decode cX7_comes 22 = .ok (.aload_n 0, 1) := by decide +kernel
theorem dX7_comes_23 : decode cX7_comes 23 = .ok (.getfield 13, 3) := by decide +kernel
theorem dX7_comes_26 : decode cX7_comes 26 = .ok (.iload_n 1, 1) := by decide +kernel
theorem dX7_comes_27 : decode cX7_comes 27 = .ok (.iaload, 1) := by decide +kernel
theorem dX7_comes_28 : decode cX7_comes 28 = .ok (.iadd, 1) := by decide +kernel
theorem dX7_comes_29 : decode cX7_comes 29 = .ok (.iload_n 3, 1) := by decide +kernel
theorem dX7_comes_30 : decode cX7_comes 30 = .ok (.iastore, 1) := by decide +kernel
theorem dX7_comes_31 : decode cX7_comes 31 = .ok (.aload_n 0, 1) := by decide +kernel
theorem dX7_comes_32 : decode cX7_comes 32 = .ok (.getfield 13, 3) := by decide +kernel
theorem dX7_comes_35 : decode cX7_comes 35 = .ok (.iload_n 1, 1) := by decide +kernel
theorem dX7_comes_36 : decode cX7_comes 36 = .ok (.dup2, 1) := by decide +kernel
theorem dX7_comes_37 : decode cX7_comes 37 = .ok (.iaload, 1) := by decide +kernel
theorem dX7_comes_38 : decode cX7_comes 38 = .ok (.iconst 1, 1) := by decide +kernel
theorem dX7_comes_39 : decode cX7_comes 39 = .ok (.iadd, 1) := by decide +kernel
theorem dX7_comes_40 : decode cX7_comes 40 = .ok (.iastore, 1) := by decide +kernel
theorem dX7_comes_41 : decode cX7_comes 41 = .ok (.return_, 1) := by decide +kernel
theorem dX7_badOf_0 : decode cX7_badOf 0 = .ok (.iload_n 1, 1) := by decide +kernel
theorem dX7_badOf_1 : decode cX7_badOf 1 = .ok (.invokestatic 75, 3) := by decide +kernel
theorem dX7_badOf_4 : decode cX7_badOf 4 = .ok (.istore_n 3, 1) := by decide +kernel
theorem dX7_badOf_5 : decode cX7_badOf 5 = .ok (.iconst 0, 1) := by decide +kernel
theorem dX7_badOf_6 : decode cX7_badOf 6 = .ok (.istore 4, 2) := by decide +kernel
theorem dX7_badOf_8 : decode cX7_badOf 8 = .ok (.iconst 0, 1) := by decide +kernel
theorem dX7_badOf_9 : decode cX7_badOf 9 = .ok (.istore 5, 2) := by decide +kernel
theorem dX7_badOf_11 : decode cX7_badOf 11 = .ok (.iload 5, 2) := by decide +kernel
theorem dX7_badOf_13 : decode cX7_badOf 13 = .ok (.bipush 23, 2) := by decide +kernel
theorem dX7_badOf_15 : decode cX7_badOf 15 = .ok (.if_icmp .ge 96, 3) := by decide +kernel
theorem dX7_badOf_18 : decode cX7_badOf 18 = .ok (.aload_n 0, 1) := by decide +kernel
theorem dX7_badOf_19 : decode cX7_badOf 19 = .ok (.getfield 13, 3) := by decide +kernel
theorem dX7_badOf_22 : decode cX7_badOf 22 = .ok (.iload_n 3, 1) := by decide +kernel
theorem dX7_badOf_23 : decode cX7_badOf 23 = .ok (.iconst 2, 1) := by decide +kernel
theorem dX7_badOf_24 : decode cX7_badOf 24 = .ok (.iadd, 1) := by decide +kernel
theorem dX7_badOf_25 : decode cX7_badOf 25 = .ok (.iaload, 1) := by decide +kernel
theorem dX7_badOf_26 : decode cX7_badOf 26 = .ok (.iload 5, 2) := by decide +kernel
theorem dX7_badOf_28 : decode cX7_badOf 28 = .ok (.ishr, 1) := by decide +kernel
theorem dX7_badOf_29 : decode cX7_badOf 29 = .ok (.iconst 1, 1) := by decide +kernel
theorem dX7_badOf_30 : decode cX7_badOf 30 = .ok (.iand, 1) := by decide +kernel
theorem dX7_badOf_31 : decode cX7_badOf 31 = .ok (.iconst 1, 1) := by decide +kernel
theorem dX7_badOf_32 : decode cX7_badOf 32 = .ok (.if_icmp .ne 52, 3) := by decide +kernel
theorem dX7_badOf_35 : decode cX7_badOf 35 = .ok (.aload_n 0, 1) := by decide +kernel
theorem dX7_badOf_36 : decode cX7_badOf 36 = .ok (.getfield 13, 3) := by decide +kernel
theorem dX7_badOf_39 : decode cX7_badOf 39 = .ok (.iload_n 3, 1) := by decide +kernel
theorem dX7_badOf_40 : decode cX7_badOf 40 = .ok (.bipush 16, 2) := by decide +kernel
theorem dX7_badOf_42 : decode cX7_badOf 42 = .ok (.iadd, 1) := by decide +kernel
theorem dX7_badOf_43 : decode cX7_badOf 43 = .ok (.iload 5, 2) := by decide +kernel
theorem dX7_badOf_45 : decode cX7_badOf 45 = .ok (.iadd, 1) := by decide +kernel
theorem dX7_badOf_46 : decode cX7_badOf 46 = .ok (.iaload, 1) := by decide +kernel
theorem dX7_badOf_47 : decode cX7_badOf 47 = .ok (.iload_n 2, 1) := by decide +kernel
theorem dX7_badOf_48 : decode cX7_badOf 48 = .ok (.if_icmp .lt 36, 3) := by decide +kernel
theorem dX7_badOf_51 : decode cX7_badOf 51 = .ok (.iconst 2, 1) := by decide +kernel
theorem dX7_badOf_52 : decode cX7_badOf 52 = .ok (.aload_n 0, 1) := by decide +kernel
theorem dX7_badOf_53 : decode cX7_badOf 53 = .ok (.getfield 13, 3) := by decide +kernel
theorem dX7_badOf_56 : decode cX7_badOf 56 = .ok (.iload_n 3, 1) := by decide +kernel
theorem dX7_badOf_57 : decode cX7_badOf 57 = .ok (.bipush 39, 2) := by decide +kernel
theorem dX7_badOf_59 : decode cX7_badOf 59 = .ok (.iadd, 1) := by decide +kernel
theorem dX7_badOf_60 : decode cX7_badOf 60 = .ok (.iload 5, 2) := by decide +kernel
theorem dX7_badOf_62 : decode cX7_badOf 62 = .ok (.iadd, 1) := by decide +kernel
theorem dX7_badOf_63 : decode cX7_badOf 63 = .ok (.iaload, 1) := by decide +kernel
theorem dX7_badOf_64 : decode cX7_badOf 64 = .ok (.imul, 1) := by decide +kernel
theorem dX7_badOf_65 : decode cX7_badOf 65 = .ok (.aload_n 0, 1) := by decide +kernel
theorem dX7_badOf_66 : decode cX7_badOf 66 = .ok (.getfield 13, 3) := by decide +kernel
theorem dX7_badOf_69 : decode cX7_badOf 69 = .ok (.iload_n 3, 1) := by decide +kernel
theorem dX7_badOf_70 : decode cX7_badOf 70 = .ok (.bipush 16, 2) := by decide +kernel
theorem dX7_badOf_72 : decode cX7_badOf 72 = .ok (.iadd, 1) := by decide +kernel
theorem dX7_badOf_73 : decode cX7_badOf 73 = .ok (.iload 5, 2) := by decide +kernel
theorem dX7_badOf_75 : decode cX7_badOf 75 = .ok (.iadd, 1) := by decide +kernel
theorem dX7_badOf_76 : decode cX7_badOf 76 = .ok (.iaload, 1) := by decide +kernel
theorem dX7_badOf_77 : decode cX7_badOf 77 = .ok (.if_icmp .ge 7, 3) := by decide +kernel
theorem dX7_badOf_80 : decode cX7_badOf 80 = .ok (.iconst 1, 1) := by decide +kernel
theorem dX7_badOf_81 : decode cX7_badOf 81 = .ok (.goto 4, 3) := by decide +kernel
theorem dX7_badOf_84 : decode cX7_badOf 84 = .ok (.iconst 0, 1) := by decide +kernel
theorem dX7_badOf_85 : decode cX7_badOf 85 = .ok (.istore 6, 2) := by decide +kernel
theorem dX7_badOf_87 : decode cX7_badOf 87 = .ok (.iload 4, 2) := by decide +kernel
theorem dX7_badOf_89 : decode cX7_badOf 89 = .ok (.iload 6, 2) := by decide +kernel
theorem dX7_badOf_91 : decode cX7_badOf 91 = .ok (.ifCond .eq 10, 3) := by decide +kernel
theorem dX7_badOf_94 : decode cX7_badOf 94 = .ok (.iconst 1, 1) := by decide +kernel
theorem dX7_badOf_95 : decode cX7_badOf 95 = .ok (.iload 5, 2) := by decide +kernel
theorem dX7_badOf_97 : decode cX7_badOf 97 = .ok (.ishl, 1) := by decide +kernel
theorem dX7_badOf_98 : decode cX7_badOf 98 = .ok (.goto 4, 3) := by decide +kernel
theorem dX7_badOf_101 : decode cX7_badOf 101 = .ok (.iconst 0, 1) := by decide +kernel
theorem dX7_badOf_102 : decode cX7_badOf 102 = .ok (.ior, 1) := by decide +kernel
theorem dX7_badOf_103 : decode cX7_badOf 103 = .ok (.istore 4, 2) := by decide +kernel
theorem dX7_badOf_105 : decode cX7_badOf 105 = .ok (.iinc 5 1, 3) := by decide +kernel
theorem dX7_badOf_108 : decode cX7_badOf 108 = .ok (.goto (-97), 3) := by decide +kernel
theorem dX7_badOf_111 : decode cX7_badOf 111 = .ok (.iload 4, 2) := by decide +kernel
theorem dX7_badOf_113 : decode cX7_badOf 113 = .ok (.ireturn, 1) := by decide +kernel
theorem dX7_aheadOf_0 : decode cX7_aheadOf 0 = .ok (.iconst 0, 1) := by decide +kernel
theorem dX7_aheadOf_1 : decode cX7_aheadOf 1 = .ok (.istore_n 3, 1) := by decide +kernel
theorem dX7_aheadOf_2 : decode cX7_aheadOf 2 = .ok (.iconst 0, 1) := by decide +kernel
theorem dX7_aheadOf_3 : decode cX7_aheadOf 3 = .ok (.istore 4, 2) := by decide +kernel
theorem dX7_aheadOf_5 : decode cX7_aheadOf 5 = .ok (.iload 4, 2) := by decide +kernel
theorem dX7_aheadOf_7 : decode cX7_aheadOf 7 = .ok (.bipush 23, 2) := by decide +kernel
theorem dX7_aheadOf_9 : decode cX7_aheadOf 9 = .ok (.if_icmp .ge 76, 3) := by decide +kernel
theorem dX7_aheadOf_12 : decode cX7_aheadOf 12 = .ok (.aload_n 0, 1) := by decide +kernel
theorem dX7_aheadOf_13 : decode cX7_aheadOf 13 = .ok (.getfield 13, 3) := by decide +kernel
theorem dX7_aheadOf_16 : decode cX7_aheadOf 16 = .ok (.iload_n 1, 1) := by decide +kernel
theorem dX7_aheadOf_17 : decode cX7_aheadOf 17 = .ok (.bipush 39, 2) := by decide +kernel
theorem dX7_aheadOf_19 : decode cX7_aheadOf 19 = .ok (.iadd, 1) := by decide +kernel
theorem dX7_aheadOf_20 : decode cX7_aheadOf 20 = .ok (.iload 4, 2) := by decide +kernel
theorem dX7_aheadOf_22 : decode cX7_aheadOf 22 = .ok (.iadd, 1) := by decide +kernel
theorem dX7_aheadOf_23 : decode cX7_aheadOf 23 = .ok (.iaload, 1) := by decide +kernel
theorem dX7_aheadOf_24 : decode cX7_aheadOf 24 = .ok (.aload_n 0, 1) := by decide +kernel
theorem dX7_aheadOf_25 : decode cX7_aheadOf 25 = .ok (.getfield 13, 3) := by decide +kernel
theorem dX7_aheadOf_28 : decode cX7_aheadOf 28 = .ok (.iload_n 1, 1) := by decide +kernel
theorem dX7_aheadOf_29 : decode cX7_aheadOf 29 = .ok (.bipush 39, 2) := by decide +kernel
theorem dX7_aheadOf_31 : decode cX7_aheadOf 31 = .ok (.iadd, 1) := by decide +kernel
theorem dX7_aheadOf_32 : decode cX7_aheadOf 32 = .ok (.iload_n 2, 1) := by decide +kernel
theorem dX7_aheadOf_33 : decode cX7_aheadOf 33 = .ok (.iadd, 1) := by decide +kernel
theorem dX7_aheadOf_34 : decode cX7_aheadOf 34 = .ok (.iaload, 1) := by decide +kernel
theorem dX7_aheadOf_35 : decode cX7_aheadOf 35 = .ok (.isub, 1) := by decide +kernel
theorem dX7_aheadOf_36 : decode cX7_aheadOf 36 = .ok (.istore 5, 2) := by decide +kernel
theorem dX7_aheadOf_38 : decode cX7_aheadOf 38 = .ok (.iload_n 3, 1) := by decide +kernel
theorem dX7_aheadOf_39 : decode cX7_aheadOf 39 = .ok (.aload_n 0, 1) := by decide +kernel
theorem dX7_aheadOf_40 : decode cX7_aheadOf 40 = .ok (.getfield 13, 3) := by decide +kernel
theorem dX7_aheadOf_43 : decode cX7_aheadOf 43 = .ok (.iload_n 1, 1) := by decide +kernel
theorem dX7_aheadOf_44 : decode cX7_aheadOf 44 = .ok (.iconst 2, 1) := by decide +kernel
theorem dX7_aheadOf_45 : decode cX7_aheadOf 45 = .ok (.iadd, 1) := by decide +kernel
theorem dX7_aheadOf_46 : decode cX7_aheadOf 46 = .ok (.iaload, 1) := by decide +kernel
theorem dX7_aheadOf_47 : decode cX7_aheadOf 47 = .ok (.iload 4, 2) := by decide +kernel
theorem dX7_aheadOf_49 : decode cX7_aheadOf 49 = .ok (.ishr, 1) := by decide +kernel
theorem dX7_aheadOf_50 : decode cX7_aheadOf 50 = .ok (.iconst 1, 1) := by decide +kernel
theorem dX7_aheadOf_51 : decode cX7_aheadOf 51 = .ok (.iand, 1) := by decide +kernel
theorem dX7_aheadOf_52 : decode cX7_aheadOf 52 = .ok (.iconst 1, 1) := by decide +kernel
theorem dX7_aheadOf_53 : decode cX7_aheadOf 53 = .ok (.if_icmp .ne 23, 3) := by decide +kernel
theorem dX7_aheadOf_56 : decode cX7_aheadOf 56 = .ok (.iload 5, 2) := by decide +kernel
theorem dX7_aheadOf_58 : decode cX7_aheadOf 58 = .ok (.ifCond .gt 14, 3) := by decide +kernel
theorem dX7_aheadOf_61 : decode cX7_aheadOf 61 = .ok (.iload 5, 2) := by decide +kernel
theorem dX7_aheadOf_63 : decode cX7_aheadOf 63 = .ok (.ifCond .ne 13, 3) := by decide +kernel
theorem dX7_aheadOf_66 : decode cX7_aheadOf 66 = .ok (.iload 4, 2) := by decide +kernel
theorem dX7_aheadOf_68 : decode cX7_aheadOf 68 = .ok (.iload_n 2, 1) := by decide +kernel
theorem dX7_aheadOf_69 : decode cX7_aheadOf 69 = .ok (.if_icmp .ge 7, 3) := by decide +kernel
theorem dX7_aheadOf_72 : decode cX7_aheadOf 72 = .ok (.iconst 1, 1) := by decide +kernel
theorem dX7_aheadOf_73 : decode cX7_aheadOf 73 = .ok (.goto 4, 3) := by decide +kernel
theorem dX7_aheadOf_76 : decode cX7_aheadOf 76 = .ok (.iconst 0, 1) := by decide +kernel
theorem dX7_aheadOf_77 : decode cX7_aheadOf 77 = .ok (.iadd, 1) := by decide +kernel
theorem dX7_aheadOf_78 : decode cX7_aheadOf 78 = .ok (.istore_n 3, 1) := by decide +kernel
theorem dX7_aheadOf_79 : decode cX7_aheadOf 79 = .ok (.iinc 4 1, 3) := by decide +kernel
theorem dX7_aheadOf_82 : decode cX7_aheadOf 82 = .ok (.goto (-77), 3) := by decide +kernel
theorem dX7_aheadOf_85 : decode cX7_aheadOf 85 = .ok (.iload_n 3, 1) := by decide +kernel
theorem dX7_aheadOf_86 : decode cX7_aheadOf 86 = .ok (.ireturn, 1) := by decide +kernel
theorem dX7_draw_0 : decode cX7_draw 0 = .ok (.aload_n 0, 1) := by decide +kernel
theorem dX7_draw_1 : decode cX7_draw 1 = .ok (.getfield 13, 3) := by decide +kernel
theorem dX7_draw_4 : decode cX7_draw 4 = .ok (.bipush 8, 2) := by decide +kernel
theorem dX7_draw_6 : decode cX7_draw 6 = .ok (.ldc2_w 170, 3) := by decide +kernel
theorem dX7_draw_9 : decode cX7_draw 9 = .ok (.aload_n 0, 1) := by decide +kernel
theorem dX7_draw_10 : decode cX7_draw 10 = .ok (.getfield 13, 3) := by decide +kernel
theorem dX7_draw_13 : decode cX7_draw 13 = .ok (.bipush 8, 2) := by decide +kernel
theorem dX7_draw_15 : decode cX7_draw 15 = .ok (.iaload, 1) := by decide +kernel
theorem dX7_draw_16 : decode cX7_draw 16 = .ok (.i2l, 1) := by decide +kernel
theorem dX7_draw_17 : decode cX7_draw 17 = .ok (.lmul, 1) := by decide +kernel
theorem dX7_draw_18 : decode cX7_draw 18 = .ok (.ldc2_w 172, 3) := by decide +kernel
theorem dX7_draw_21 : decode cX7_draw 21 = .ok (.ladd, 1) := by decide +kernel
theorem dX7_draw_22 : decode cX7_draw 22 = .ok (.ldc2_w 174, 3) := by decide +kernel
theorem dX7_draw_25 : decode cX7_draw 25 = .ok (.lrem, 1) := by decide +kernel
theorem dX7_draw_26 : decode cX7_draw 26 = .ok (.l2i, 1) := by decide +kernel
theorem dX7_draw_27 : decode cX7_draw 27 = .ok (.iastore, 1) := by decide +kernel
theorem dX7_draw_28 : decode cX7_draw 28 = .ok (.aload_n 0, 1) := by decide +kernel
theorem dX7_draw_29 : decode cX7_draw 29 = .ok (.getfield 13, 3) := by decide +kernel
theorem dX7_draw_32 : decode cX7_draw 32 = .ok (.bipush 8, 2) := by decide +kernel
theorem dX7_draw_34 : decode cX7_draw 34 = .ok (.iaload, 1) := by decide +kernel
theorem dX7_draw_35 : decode cX7_draw 35 = .ok (.bipush 16, 2) := by decide +kernel
theorem dX7_draw_37 : decode cX7_draw 37 = .ok (.irem, 1) := by decide +kernel
theorem dX7_draw_38 : decode cX7_draw 38 = .ok (.ireturn, 1) := by decide +kernel
theorem dX7_mapsBecome_0 : decode cX7_mapsBecome 0 = .ok (.aload_n 0, 1) := by decide +kernel
theorem dX7_mapsBecome_1 : decode cX7_mapsBecome 1 = .ok (.getfield 13, 3) := by decide +kernel
theorem dX7_mapsBecome_4 : decode cX7_mapsBecome 4 = .ok (.iload_n 1, 1) := by decide +kernel
theorem dX7_mapsBecome_5 : decode cX7_mapsBecome 5 = .ok (.iaload, 1) := by decide +kernel
theorem dX7_mapsBecome_6 : decode cX7_mapsBecome 6 = .ok (.ifCond .eq 96, 3) := by decide +kernel
theorem dX7_mapsBecome_9 : decode cX7_mapsBecome 9 = .ok (.aload_n 0, 1) := by decide +kernel
theorem dX7_mapsBecome_10 : decode cX7_mapsBecome 10 = .ok (.getfield 13, 3) := by decide +kernel
theorem dX7_mapsBecome_13 : decode cX7_mapsBecome 13 = .ok (.iload_n 2, 1) := by decide +kernel
theorem dX7_mapsBecome_14 : decode cX7_mapsBecome 14 = .ok (.iaload, 1) := by decide +kernel
theorem dX7_mapsBecome_15 : decode cX7_mapsBecome 15 = .ok (.aload_n 0, 1) := by decide +kernel
theorem dX7_mapsBecome_16 : decode cX7_mapsBecome 16 = .ok (.getfield 13, 3) := by decide +kernel
theorem dX7_mapsBecome_19 : decode cX7_mapsBecome 19 = .ok (.bipush 7, 2) := by decide +kernel
theorem dX7_mapsBecome_21 : decode cX7_mapsBecome 21 = .ok (.iaload, 1) := by decide +kernel
theorem dX7_mapsBecome_22 : decode cX7_mapsBecome 22 = .ok (.if_icmp .gt 80, 3) := by decide +kernel
theorem dX7_mapsBecome_25 : decode cX7_mapsBecome 25 = .ok (.aload_n 0, 1) := by decide +kernel
theorem dX7_mapsBecome_26 : decode cX7_mapsBecome 26 = .ok (.getfield 13, 3) := by decide +kernel
theorem dX7_mapsBecome_29 : decode cX7_mapsBecome 29 = .ok (.sipush 694, 3) := by decide +kernel
theorem dX7_mapsBecome_32 : decode cX7_mapsBecome 32 = .ok (.dup2, 1) := by decide +kernel
theorem dX7_mapsBecome_33 : decode cX7_mapsBecome 33 = .ok (.iaload, 1) := by decide +kernel
theorem dX7_mapsBecome_34 : decode cX7_mapsBecome 34 = .ok (.iload 4, 2) := by decide +kernel
theorem dX7_mapsBecome_36 : decode cX7_mapsBecome 36 = .ok (.iload_n 3, 1) := by decide +kernel
theorem dX7_mapsBecome_37 : decode cX7_mapsBecome 37 = .ok (.if_icmp .ne 7, 3) := by decide +kernel
theorem dX7_mapsBecome_40 : decode cX7_mapsBecome 40 = .ok (.iconst 0, 1) := by decide +kernel
theorem dX7_mapsBecome_41 : decode cX7_mapsBecome 41 = .ok (.goto 4, 3) := by decide +kernel
theorem dX7_mapsBecome_44 : decode cX7_mapsBecome 44 = .ok (.iconst 1, 1) := by decide +kernel
theorem dX7_mapsBecome_45 : decode cX7_mapsBecome 45 = .ok (.iadd, 1) := by decide +kernel
theorem dX7_mapsBecome_46 : decode cX7_mapsBecome 46 = .ok (.iastore, 1) := by decide +kernel
theorem dX7_mapsBecome_47 : decode cX7_mapsBecome 47 = .ok (.aload_n 0, 1) := by decide +kernel
theorem dX7_mapsBecome_48 : decode cX7_mapsBecome 48 = .ok (.getfield 13, 3) := by decide +kernel
theorem dX7_mapsBecome_51 : decode cX7_mapsBecome 51 = .ok (.iload 4, 2) := by decide +kernel
theorem dX7_mapsBecome_53 : decode cX7_mapsBecome 53 = .ok (.iload 4, 2) := by decide +kernel
theorem dX7_mapsBecome_55 : decode cX7_mapsBecome 55 = .ok (.iload_n 3, 1) := by decide +kernel
theorem dX7_mapsBecome_56 : decode cX7_mapsBecome 56 = .ok (.if_icmp .ne 13, 3) := by decide +kernel
theorem dX7_mapsBecome_59 : decode cX7_mapsBecome 59 = .ok (.aload_n 0, 1) := by decide +kernel
theorem dX7_mapsBecome_60 : decode cX7_mapsBecome 60 = .ok (.getfield 13, 3) := by decide +kernel
theorem dX7_mapsBecome_63 : decode cX7_mapsBecome 63 = .ok (.iload 4, 2) := by decide +kernel
theorem dX7_mapsBecome_65 : decode cX7_mapsBecome 65 = .ok (.iaload, 1) := by decide +kernel
theorem dX7_mapsBecome_66 : decode cX7_mapsBecome 66 = .ok (.goto 9, 3) := by decide +kernel
theorem dX7_mapsBecome_69 : decode cX7_mapsBecome 69 = .ok (.aload_n 0, 1) := by decide +kernel
theorem dX7_mapsBecome_70 : decode cX7_mapsBecome 70 = .ok (.getfield 13, 3) := by decide +kernel
theorem dX7_mapsBecome_73 : decode cX7_mapsBecome 73 = .ok (.iload_n 3, 1) := by decide +kernel
theorem dX7_mapsBecome_74 : decode cX7_mapsBecome 74 = .ok (.iaload, 1) := by decide +kernel
theorem dX7_mapsBecome_75 : decode cX7_mapsBecome 75 = .ok (.iastore, 1) := by decide +kernel
theorem dX7_mapsBecome_76 : decode cX7_mapsBecome 76 = .ok (.aload_n 0, 1) := by decide +kernel
theorem dX7_mapsBecome_77 : decode cX7_mapsBecome 77 = .ok (.getfield 13, 3) := by decide +kernel
theorem dX7_mapsBecome_80 : decode cX7_mapsBecome 80 = .ok (.iload_n 3, 1) := by decide +kernel
theorem dX7_mapsBecome_81 : decode cX7_mapsBecome 81 = .ok (.aload_n 0, 1) := by decide +kernel
theorem dX7_mapsBecome_82 : decode cX7_mapsBecome 82 = .ok (.getfield 13, 3) := by decide +kernel
theorem dX7_mapsBecome_85 : decode cX7_mapsBecome 85 = .ok (.iload_n 1, 1) := by decide +kernel
theorem dX7_mapsBecome_86 : decode cX7_mapsBecome 86 = .ok (.iaload, 1) := by decide +kernel
theorem dX7_mapsBecome_87 : decode cX7_mapsBecome 87 = .ok (.iastore, 1) := by decide +kernel
theorem dX7_mapsBecome_88 : decode cX7_mapsBecome 88 = .ok (.aload_n 0, 1) := by decide +kernel
theorem dX7_mapsBecome_89 : decode cX7_mapsBecome 89 = .ok (.getfield 13, 3) := by decide +kernel
theorem dX7_mapsBecome_92 : decode cX7_mapsBecome 92 = .ok (.iload_n 1, 1) := by decide +kernel
theorem dX7_mapsBecome_93 : decode cX7_mapsBecome 93 = .ok (.iconst 0, 1) := by decide +kernel
theorem dX7_mapsBecome_94 : decode cX7_mapsBecome 94 = .ok (.iastore, 1) := by decide +kernel
theorem dX7_mapsBecome_95 : decode cX7_mapsBecome 95 = .ok (.aload_n 0, 1) := by decide +kernel
theorem dX7_mapsBecome_96 : decode cX7_mapsBecome 96 = .ok (.getfield 13, 3) := by decide +kernel
theorem dX7_mapsBecome_99 : decode cX7_mapsBecome 99 = .ok (.iload_n 2, 1) := by decide +kernel
theorem dX7_mapsBecome_100 : decode cX7_mapsBecome 100 = .ok (.iconst 0, 1) := by decide +kernel
theorem dX7_mapsBecome_101 : decode cX7_mapsBecome 101 = .ok (.iastore, 1) := by decide +kernel
theorem dX7_mapsBecome_102 : decode cX7_mapsBecome 102 = .ok (.return_, 1) := by decide +kernel
theorem dX7_framesCome_0 : decode cX7_framesCome 0 = .ok (.aload_n 0, 1) := by decide +kernel
theorem dX7_framesCome_1 : decode cX7_framesCome 1 = .ok (.getfield 13, 3) := by decide +kernel
theorem dX7_framesCome_4 : decode cX7_framesCome 4 = .ok (.iload_n 1, 1) := by decide +kernel
theorem dX7_framesCome_5 : decode cX7_framesCome 5 = .ok (.bipush 31, 2) := by decide +kernel
theorem dX7_framesCome_7 : decode cX7_framesCome 7 = .ok (.iadd, 1) := by decide +kernel
theorem dX7_framesCome_8 : decode cX7_framesCome 8 = .ok (.iaload, 1) := by decide +kernel
theorem dX7_framesCome_9 : decode cX7_framesCome 9 = .ok (.ifCond .le 50, 3) := by decide +kernel
theorem dX7_framesCome_12 : decode cX7_framesCome 12 = .ok (.aload_n 0, 1) := by decide +kernel
theorem dX7_framesCome_13 : decode cX7_framesCome 13 = .ok (.getfield 13, 3) := by decide +kernel
theorem dX7_framesCome_16 : decode cX7_framesCome 16 = .ok (.bipush 7, 2) := by decide +kernel
theorem dX7_framesCome_18 : decode cX7_framesCome 18 = .ok (.iaload, 1) := by decide +kernel
theorem dX7_framesCome_19 : decode cX7_framesCome 19 = .ok (.aload_n 0, 1) := by decide +kernel
theorem dX7_framesCome_20 : decode cX7_framesCome 20 = .ok (.getfield 13, 3) := by decide +kernel
theorem dX7_framesCome_23 : decode cX7_framesCome 23 = .ok (.iload_n 1, 1) := by decide +kernel
theorem dX7_framesCome_24 : decode cX7_framesCome 24 = .ok (.bipush 31, 2) := by decide +kernel
theorem dX7_framesCome_26 : decode cX7_framesCome 26 = .ok (.iadd, 1) := by decide +kernel
theorem dX7_framesCome_27 : decode cX7_framesCome 27 = .ok (.iaload, 1) := by decide +kernel
theorem dX7_framesCome_28 : decode cX7_framesCome 28 = .ok (.irem, 1) := by decide +kernel
theorem dX7_framesCome_29 : decode cX7_framesCome 29 = .ok (.aload_n 0, 1) := by decide +kernel
theorem dX7_framesCome_30 : decode cX7_framesCome 30 = .ok (.getfield 13, 3) := by decide +kernel
theorem dX7_framesCome_33 : decode cX7_framesCome 33 = .ok (.iload_n 1, 1) := by decide +kernel
theorem dX7_framesCome_34 : decode cX7_framesCome 34 = .ok (.bipush 32, 2) := by decide +kernel
theorem dX7_framesCome_36 : decode cX7_framesCome 36 = .ok (.iadd, 1) := by decide +kernel
theorem dX7_framesCome_37 : decode cX7_framesCome 37 = .ok (.iaload, 1) := by decide +kernel
theorem dX7_framesCome_38 : decode cX7_framesCome 38 = .ok (.if_icmp .ne 21, 3) := by decide +kernel
theorem dX7_framesCome_41 : decode cX7_framesCome 41 = .ok (.aload_n 0, 1) := by decide +kernel
theorem dX7_framesCome_42 : decode cX7_framesCome 42 = .ok (.getfield 13, 3) := by decide +kernel
theorem dX7_framesCome_45 : decode cX7_framesCome 45 = .ok (.iload_n 1, 1) := by decide +kernel
theorem dX7_framesCome_46 : decode cX7_framesCome 46 = .ok (.bipush 36, 2) := by decide +kernel
theorem dX7_framesCome_48 : decode cX7_framesCome 48 = .ok (.iadd, 1) := by decide +kernel
theorem dX7_framesCome_49 : decode cX7_framesCome 49 = .ok (.aload_n 0, 1) := by decide +kernel
theorem dX7_framesCome_50 : decode cX7_framesCome 50 = .ok (.getfield 13, 3) := by decide +kernel
theorem dX7_framesCome_53 : decode cX7_framesCome 53 = .ok (.iload_n 1, 1) := by decide +kernel
theorem dX7_framesCome_54 : decode cX7_framesCome 54 = .ok (.bipush 33, 2) := by decide +kernel
theorem dX7_framesCome_56 : decode cX7_framesCome 56 = .ok (.iadd, 1) := by decide +kernel
theorem dX7_framesCome_57 : decode cX7_framesCome 57 = .ok (.iaload, 1) := by decide +kernel
theorem dX7_framesCome_58 : decode cX7_framesCome 58 = .ok (.iastore, 1) := by decide +kernel
theorem dX7_framesCome_59 : decode cX7_framesCome 59 = .ok (.return_, 1) := by decide +kernel
theorem dX7_isReady_0 : decode cX7_isReady 0 = .ok (.iload_n 1, 1) := by decide +kernel
theorem dX7_isReady_1 : decode cX7_isReady 1 = .ok (.iload_n 2, 1) := by decide +kernel
theorem dX7_isReady_2 : decode cX7_isReady 2 = .ok (.invokestatic 82, 3) := by decide +kernel
theorem dX7_isReady_5 : decode cX7_isReady 5 = .ok (.istore 4, 2) := by decide +kernel
theorem dX7_isReady_7 : decode cX7_isReady 7 = .ok (.aload_n 0, 1) := by decide +kernel
theorem dX7_isReady_8 : decode cX7_isReady 8 = .ok (.iload_n 1, 1) := by decide +kernel
theorem dX7_isReady_9 : decode cX7_isReady 9 = .ok (.aload_n 0, 1) := by decide +kernel
theorem dX7_isReady_10 : decode cX7_isReady 10 = .ok (.getfield 13, 3) := by decide +kernel
theorem dX7_isReady_13 : decode cX7_isReady 13 = .ok (.iload 4, 2) := by decide +kernel
theorem dX7_isReady_15 : decode cX7_isReady 15 = .ok (.iaload, 1) := by decide +kernel
theorem dX7_isReady_16 : decode cX7_isReady 16 = .ok (.iload_n 3, 1) := by decide +kernel
theorem dX7_isReady_17 : decode cX7_isReady 17 = .ok (.invokevirtual 176, 3) := by decide +kernel
theorem dX7_isReady_20 : decode cX7_isReady 20 = .ok (.ifCond .eq 47, 3) := by decide +kernel
theorem dX7_isReady_23 : decode cX7_isReady 23 = .ok (.aload_n 0, 1) := by decide +kernel
theorem dX7_isReady_24 : decode cX7_isReady 24 = .ok (.getfield 13, 3) := by decide +kernel
theorem dX7_isReady_27 : decode cX7_isReady 27 = .ok (.iload 4, 2) := by decide +kernel
theorem dX7_isReady_29 : decode cX7_isReady 29 = .ok (.bipush 40, 2) := by decide +kernel
theorem dX7_isReady_31 : decode cX7_isReady 31 = .ok (.iadd, 1) := by decide +kernel
theorem dX7_isReady_32 : decode cX7_isReady 32 = .ok (.iaload, 1) := by decide +kernel
theorem dX7_isReady_33 : decode cX7_isReady 33 = .ok (.ifCond .eq 30, 3) := by decide +kernel
theorem dX7_isReady_36 : decode cX7_isReady 36 = .ok (.iload_n 3, 1) := by decide +kernel
theorem dX7_isReady_37 : decode cX7_isReady 37 = .ok (.aload_n 0, 1) := by decide +kernel
theorem dX7_isReady_38 : decode cX7_isReady 38 = .ok (.getfield 13, 3) := by decide +kernel
theorem dX7_isReady_41 : decode cX7_isReady 41 = .ok (.iload 4, 2) := by decide +kernel
theorem dX7_isReady_43 : decode cX7_isReady 43 = .ok (.bipush 40, 2) := by decide +kernel
theorem dX7_isReady_45 : decode cX7_isReady 45 = .ok (.iadd, 1) := by decide +kernel
theorem dX7_isReady_46 : decode cX7_isReady 46 = .ok (.iaload, 1) := by decide +kernel
theorem dX7_isReady_47 : decode cX7_isReady 47 = .ok (.irem, 1) := by decide +kernel
theorem dX7_isReady_48 : decode cX7_isReady 48 = .ok (.iconst 2, 1) := by decide +kernel
theorem dX7_isReady_49 : decode cX7_isReady 49 = .ok (.aload_n 0, 1) := by decide +kernel
theorem dX7_isReady_50 : decode cX7_isReady 50 = .ok (.getfield 13, 3) := by decide +kernel
theorem dX7_isReady_53 : decode cX7_isReady 53 = .ok (.iload 4, 2) := by decide +kernel
theorem dX7_isReady_55 : decode cX7_isReady 55 = .ok (.bipush 41, 2) := by decide +kernel
theorem dX7_isReady_57 : decode cX7_isReady 57 = .ok (.iadd, 1) := by decide +kernel
theorem dX7_isReady_58 : decode cX7_isReady 58 = .ok (.iaload, 1) := by decide +kernel
theorem dX7_isReady_59 : decode cX7_isReady 59 = .ok (.imul, 1) := by decide +kernel
theorem dX7_isReady_60 : decode cX7_isReady 60 = .ok (.if_icmp .ge 7, 3) := by decide +kernel
theorem dX7_isReady_63 : decode cX7_isReady 63 = .ok (.iconst 1, 1) := by decide +kernel
theorem dX7_isReady_64 : decode cX7_isReady 64 = .ok (.goto 4, 3) := by decide +kernel
theorem dX7_isReady_67 : decode cX7_isReady 67 = .ok (.iconst 0, 1) := by decide +kernel
theorem dX7_isReady_68 : decode cX7_isReady 68 = .ok (.ireturn, 1) := by decide +kernel
theorem dX7_isLinkHere_0 : decode cX7_isLinkHere 0 = .ok (.aload_n 0, 1) := by decide +kernel
theorem dX7_isLinkHere_1 : decode cX7_isLinkHere 1 = .ok (.iload_n 1, 1) := by decide +kernel
theorem dX7_isLinkHere_2 : decode cX7_isLinkHere 2 = .ok (.iload_n 2, 1) := by decide +kernel
theorem dX7_isLinkHere_3 : decode cX7_isLinkHere 3 = .ok (.aload_n 0, 1) := by decide +kernel
theorem dX7_isLinkHere_4 : decode cX7_isLinkHere 4 = .ok (.getfield 13, 3) := by decide +kernel
theorem dX7_isLinkHere_7 : decode cX7_isLinkHere 7 = .ok (.bipush 7, 2) := by decide +kernel
theorem dX7_isLinkHere_9 : decode cX7_isLinkHere 9 = .ok (.iaload, 1) := by decide +kernel
theorem dX7_isLinkHere_10 : decode cX7_isLinkHere 10 = .ok (.invokevirtual 179, 3) := by decide +kernel
theorem dX7_isLinkHere_13 : decode cX7_isLinkHere 13 = .ok (.ireturn, 1) := by decide +kernel
set_option maxHeartbeats 4000000 in
set_option maxRecDepth 100000 in
theorem d_X7_netAt (l : Launch) (E : hE) (ρ r : Nat → Nat → Int32) (Bt : Nat) (hBt : Bt ≤ 1000000) (M : Nat → Int32) (L : Nat → Nat) (X : Nat × Nat → Prop) (na1 : Nat) (lna1 : 0 ≤ na1) (una1 : na1 ≤ 1) (hI : RI r Bt M L X ρ) : Met l yX7_netAt (.code yX7_netAt cX7_netAt 1 (some .int) :: gw_all) (rmk 1 40) (cPre E ρ [.int (nI na1)]) (cI E (fun v ρ1 => ρ = ρ1 ∧ RI r Bt M L X ρ1 ∧ v = nI (42 + 326 * na1))) 0 0 (hA E) := by
  refine ent (own := RX7) (by decide) rfl (Nat.le_of_ble_eq_true rfl) ?_
  intro p e s m below meth c ls B hr hlk hl hP hS
  have hx := B.1.1
  have hb := B.1.2.1
  have hown := B.1.2.2.2.1
  have hts := B.1.2.2.2.2
  have hl : lv_has ls 1 [(0, .int (nI na1))] := hl
  refine lv_bipush (v := 42) hx hb dX7_netAt_0 (by decide) ?_
  refine lv_sipush (v := 326) hx hb dX7_netAt_2 (by decide) ?_
  refine lv_iload_n hx hb dX7_netAt_5 rfl (lv_at hl 0 rfl) ?_
  refine lv_imul hx hb dX7_netAt_6 ?_
  refine lv_topi (fun z3 ez3 => ?_)
  obtain rfl : z3 = (nI (326 * na1)) := ez3.trans (by rw [show 326 = nI 326 from rfl, show (nI na1) = nI na1 from rfl, nI_mul] <;> exact congrArg nI (by omega))
  refine lv_iadd hx hb dX7_netAt_7 ?_
  refine lv_topi (fun z4 ez4 => ?_)
  obtain rfl : z4 = (nI (42 + 326 * na1)) := ez4.trans (by rw [show 42 = nI 42 from rfl, show (nI (326 * na1)) = nI (326 * na1) from rfl, nI_add] <;> exact congrArg nI (by omega))
  exact ret_i B hr hlk hP hS dX7_netAt_8 (⟨rfl, hI, (congrArg nI (show (42 + 326 * na1) = 42 + 326 * na1 by omega))⟩)

theorem lk_RX7_75 : LkS RX7 75 yX7_netAt cX7_netAt 1 (some .int) 1 := ⟨⟨mw_1127, mw_1128, mw_59, mw_1129⟩, by decide +kernel⟩
set_option maxHeartbeats 4000000 in
set_option maxRecDepth 100000 in
theorem d_X7_linkAt (l : Launch) (E : hE) (ρ r : Nat → Nat → Int32) (Bt : Nat) (hBt : Bt ≤ 1000000) (M : Nat → Int32) (L : Nat → Nat) (X : Nat × Nat → Prop) (na1 : Nat) (lna1 : 0 ≤ na1) (una1 : na1 ≤ 1) (na2 : Nat) (lna2 : 0 ≤ na2) (una2 : na2 ≤ 4) (hI : RI r Bt M L X ρ) : Met l yX7_linkAt (.code yX7_linkAt cX7_linkAt 2 (some .int) :: gw_all) (rmk 2 80) (cPre E ρ [.int (nI na1), .int (nI na2)]) (cI E (fun v ρ1 => ρ = ρ1 ∧ RI r Bt M L X ρ1 ∧ v = nI (104 + 326 * na1 + 66 * na2))) 0 0 (hA E) := by
  refine ent (own := RX7) (by decide) rfl (Nat.le_of_ble_eq_true rfl) ?_
  intro p e s m below meth c ls B hr hlk hl hP hS
  have hx := B.1.1
  have hb := B.1.2.1
  have hown := B.1.2.2.2.1
  have hts := B.1.2.2.2.2
  have hl : lv_has ls 2 [(0, .int (nI na1)), (1, .int (nI na2))] := hl
  refine lv_iload_n hx hb dX7_linkAt_0 rfl (lv_at hl 0 rfl) ?_
  refine call_i (cS (av := [.int (nI na1)]) (rest := []) B hP hS (d_X7_netAt l E ρ r Bt hBt M L X na1 (by omega) (by omega) hI) lk_RX7_75 rfl rfl hl.1 (Nat.le_of_ble_eq_true rfl) ⟨Nat.le_of_ble_eq_true rfl, Nat.le_of_ble_eq_true rfl⟩ ⟨Nat.le_of_ble_eq_true rfl, Nat.le_of_ble_eq_true rfl⟩ dX7_linkAt_1) hS (fun r7 ρ8 H locs q9 hP hS => ?_)
  obtain ⟨rfl, hI, q9⟩ := q9
  obtain rfl : r7 = nI (42 + 326 * na1) := q9.trans (congrArg nI (by omega))
  refine lv_bipush (v := 62) hx hb dX7_linkAt_4 (by decide) ?_
  refine lv_iadd hx hb dX7_linkAt_6 ?_
  refine lv_topi (fun z10 ez10 => ?_)
  obtain rfl : z10 = (nI (104 + 326 * na1)) := ez10.trans (by rw [show (nI (42 + 326 * na1)) = nI (42 + 326 * na1) from rfl, show 62 = nI 62 from rfl, nI_add] <;> exact congrArg nI (by omega))
  refine lv_bipush (v := 66) hx hb dX7_linkAt_7 (by decide) ?_
  refine lv_iload_n hx hb dX7_linkAt_9 rfl (lv_at hl 1 rfl) ?_
  refine lv_imul hx hb dX7_linkAt_10 ?_
  refine lv_topi (fun z11 ez11 => ?_)
  obtain rfl : z11 = (nI (66 * na2)) := ez11.trans (by rw [show 66 = nI 66 from rfl, show (nI na2) = nI na2 from rfl, nI_mul] <;> exact congrArg nI (by omega))
  refine lv_iadd hx hb dX7_linkAt_11 ?_
  refine lv_topi (fun z12 ez12 => ?_)
  obtain rfl : z12 = (nI (104 + 326 * na1 + 66 * na2)) := ez12.trans (by rw [show (nI (104 + 326 * na1)) = nI (104 + 326 * na1) from rfl, show (nI (66 * na2)) = nI (66 * na2) from rfl, nI_add] <;> exact congrArg nI (by omega))
  exact ret_i B hr hlk hP hS dX7_linkAt_12 (⟨rfl, hI, (congrArg nI (show (104 + 326 * na1 + 66 * na2) = 104 + 326 * na1 + 66 * na2 by omega))⟩)

theorem lk_RX7_71 : LkS RX7 71 yX7_in cX7_in 6 (some .boolean) 3 := ⟨⟨mw_1101, mw_1102, mw_59, mw_1103⟩, by decide +kernel⟩
set_option maxHeartbeats 4000000 in
set_option maxRecDepth 100000 in
theorem d_X7_isNet (l : Launch) (E : hE) (ρ r : Nat → Nat → Int32) (Bt : Nat) (hBt : Bt ≤ 1000000) (M : Nat → Int32) (L : Nat → Nat) (X : Nat × Nat → Prop) (a1 : Int32) (hI : RI r Bt M L X ρ) : Met l yX7_isNet (.code yX7_isNet cX7_isNet 2 (some .boolean) :: gw_all) (rmk 2 80) (cPre E ρ [.ref (E.2.1 + 1076), .int a1]) (cI E (fun v ρ1 => ρ = ρ1 ∧ RI r Bt M L X ρ1 ∧ (v = 0 ∨ v = 1 ∧ ∃ j : Nat, j < 2 ∧ a1 = nI j ∧ iR (M j) 0 5))) 0 0 (hA E) := by
  refine ent (own := RX7) (by decide) rfl (Nat.le_of_ble_eq_true rfl) ?_
  intro p e s m below meth c ls B hr hlk hl hP hS
  have hx := B.1.1
  have hb := B.1.2.1
  have hown := B.1.2.2.2.1
  have hts := B.1.2.2.2.2
  have hl : lv_has ls 2 [(0, .ref (E.2.1 + 1076)), (1, .int a1)] := hl
  refine lv_iload_n hx hb dX7_isNet_0 rfl (lv_at hl 1 rfl) ?_
  refine lv_i2l hx hb dX7_isNet_1 rfl ?_
  refine lv_lconst (v := 0) hx hb dX7_isNet_2 (by decide) ?_
  refine lv_lconst (v := 1) hx hb dX7_isNet_3 (by decide) ?_
  refine call_i (cS (av := [.long a1.toInt64, .long 0, .long 1]) (rest := []) B hP hS (c_in l E ρ a1.toInt64 0 1 0 1 (by decide) (by decide)) lk_RX7_71 rfl rfl hl.1 (Nat.le_of_ble_eq_true rfl) ⟨Nat.le_of_ble_eq_true rfl, Nat.le_of_ble_eq_true rfl⟩ ⟨Nat.le_of_ble_eq_true rfl, Nat.le_of_ble_eq_true rfl⟩ dX7_isNet_4) hS (fun r16 ρ17 H locs q18 hP hS => ?_)
  obtain ⟨rfl, q18⟩ := q18
  rcases q18 with ⟨rfl, q18⟩ | ⟨rfl, q18⟩
  · skip
    have i19 : iR a1 0 1 := (lR_i _ _ _).mp q18
    refine lv_if_eq (tgt := 27) hx hb dX7_isNet_7 (by decide) (fun c20 => absurd c20 (iR_ne (show iR 1 (1) (1) from ⟨by decide, by decide⟩) (show iR 0 (0) (0) from ⟨by decide, by decide⟩) (by decide))) (fun _ => ?_)
    refine lv_aload_n hx hb dX7_isNet_10 rfl (lv_at hl 0 rfl) ?_
    refine get7 B hP (show hk 1076 = 7 by decide +kernel) 3 (by decide) mw_1030 rfl dX7_isNet_11 ?_
    refine lv_iload_n hx hb dX7_isNet_14 rfl (lv_at hl 1 rfl) ?_
    obtain ⟨j21, lj21, uj21, ej21⟩ := iR_nat (a := 0) (b := 1) i19
    refine lv_topi (fun z22 ez22 => ?_)
    obtain rfl : z22 = nI j21 := ez22.trans ej21
    refine call_i (cS (av := [.int (nI j21)]) (rest := [.ref (E.2.1 + 1078)]) B hP hS (d_X7_netAt l E ρ r Bt hBt M L X j21 (by omega) (by omega) hI) lk_RX7_75 rfl rfl hl.1 (Nat.le_of_ble_eq_true rfl) ⟨Nat.le_of_ble_eq_true rfl, Nat.le_of_ble_eq_true rfl⟩ ⟨Nat.le_of_ble_eq_true rfl, Nat.le_of_ble_eq_true rfl⟩ dX7_isNet_15) hS (fun r23 ρ24 H locs q25 hP hS => ?_)
    obtain ⟨rfl, hI, q25⟩ := q25
    obtain rfl : r23 = nI (42 + 326 * j21) := q25.trans (congrArg nI (by omega))
    refine aldf (n := 695) (j := (42 + 326 * j21)) (v := (M j21)) B hP (show hk 1078 = 8 by decide +kernel) (show hlen 1078 = 695 by decide +kernel) rfl (by omega) (by decide) (g_m (n0 := j21) hI (by omega) (by omega)) dX7_isNet_18 ?_
    have i26 : iR (M j21) (-1) 5 := RI_Mb hI (by omega)
    refine lv_iconst (v := (-1)) hx hb dX7_isNet_19 (by decide) ?_
    refine lv_icmp_eq (tgt := 27) hx hb dX7_isNet_20 (by decide) (fun c27 => ?_) (fun c27 => ?_)
    · skip
      have i28 : iR (M j21) (-1) (-1) := (by rw [c27]; exact ⟨by decide, by decide⟩)
      refine lv_iconst (v := 0) hx hb dX7_isNet_27 (by decide) ?_
      exact ret_z B hr hlk hP hS dX7_isNet_28 (Or.inl rfl) (⟨rfl, hI, (Or.inl rfl)⟩)
    · skip
      have i29 : iR (M j21) (0) (5) := (iR_neL i26 (show iR (-1) (-1) (-1) from ⟨by decide, by decide⟩) c27 (by decide) (by decide))
      refine lv_iconst (v := 1) hx hb dX7_isNet_23 (by decide) ?_
      refine lv_goto (tgt := 28) hx hb dX7_isNet_24 (by decide) ?_
      exact ret_z B hr hlk hP hS dX7_isNet_28 (Or.inr rfl) (⟨rfl, hI, (Or.inr ⟨rfl, ⟨j21, by omega, ej21, i29⟩⟩)⟩)
  · skip
    refine lv_if_eq (tgt := 27) hx hb dX7_isNet_7 (by decide) (fun _ => ?_) (fun c30 => absurd rfl c30)
    refine lv_iconst (v := 0) hx hb dX7_isNet_27 (by decide) ?_
    exact ret_z B hr hlk hP hS dX7_isNet_28 (Or.inl rfl) (⟨rfl, hI, (Or.inl rfl)⟩)

set_option maxHeartbeats 4000000 in
set_option maxRecDepth 100000 in
theorem d_X7_isRadio (l : Launch) (E : hE) (ρ r : Nat → Nat → Int32) (Bt : Nat) (hBt : Bt ≤ 1000000) (M : Nat → Int32) (L : Nat → Nat) (X : Nat × Nat → Prop) (a1 : Int32) (hI : RI r Bt M L X ρ) : Met l yX7_isRadio (.code yX7_isRadio cX7_isRadio 2 (some .boolean) :: gw_all) (rmk 1 40) (cPre E ρ [.ref (E.2.1 + 1076), .int a1]) (cI E (fun v ρ1 => ρ = ρ1 ∧ RI r Bt M L X ρ1 ∧ (v = 0 ∨ v = 1 ∧ iR a1 0 5))) 0 0 (hA E) := by
  refine ent (own := RX7) (by decide) rfl (Nat.le_of_ble_eq_true rfl) ?_
  intro p e s m below meth c ls B hr hlk hl hP hS
  have hx := B.1.1
  have hb := B.1.2.1
  have hown := B.1.2.2.2.1
  have hts := B.1.2.2.2.2
  have hl : lv_has ls 2 [(0, .ref (E.2.1 + 1076)), (1, .int a1)] := hl
  refine lv_iload_n hx hb dX7_isRadio_0 rfl (lv_at hl 1 rfl) ?_
  refine lv_i2l hx hb dX7_isRadio_1 rfl ?_
  refine lv_lconst (v := 0) hx hb dX7_isRadio_2 (by decide) ?_
  refine lv_aload_n hx hb dX7_isRadio_3 rfl (lv_at hl 0 rfl) ?_
  refine get7 B hP (show hk 1076 = 7 by decide +kernel) 3 (by decide) mw_1030 rfl dX7_isRadio_4 ?_
  refine lv_iconst (v := 0) hx hb dX7_isRadio_7 (by decide) ?_
  refine aldn (n := 695) (j := 0) B hP (show hk 1078 = 8 by decide +kernel) (show hlen 1078 = 695 by decide +kernel) rfl (by omega) (by decide) dX7_isRadio_8 ?_
  have i8 : iR (ρ 1078 0) (0) (6) := g_nradio hI
  obtain ⟨j9, lj9, uj9, ej9⟩ := iR_nat (a := 0) (b := 6) i8
  refine lv_topi (fun z10 ez10 => ?_)
  obtain rfl : z10 = nI j9 := ez10.trans ej9
  refine lv_i2l hx hb dX7_isRadio_9 rfl ?_
  refine lv_lconst (v := 1) hx hb dX7_isRadio_10 (by decide) ?_
  refine lv_lsub hx hb dX7_isRadio_11 ?_
  refine call_i (cS (av := [.long a1.toInt64, .long 0, .long ((nI j9).toInt64 - 1)]) (rest := []) B hP hS (c_in l E ρ a1.toInt64 0 ((nI j9).toInt64 - 1) 0 (((nI j9).toInt64 - 1)).toInt (by decide) rfl) lk_RX7_71 rfl rfl hl.1 (Nat.le_of_ble_eq_true rfl) ⟨Nat.le_of_ble_eq_true rfl, Nat.le_of_ble_eq_true rfl⟩ ⟨Nat.le_of_ble_eq_true rfl, Nat.le_of_ble_eq_true rfl⟩ dX7_isRadio_12) hS (fun r11 ρ12 H locs q13 hP hS => ?_)
  obtain ⟨rfl, q13⟩ := q13
  rcases q13 with ⟨rfl, q13⟩ | ⟨rfl, q13⟩
  · skip
    obtain ⟨j14, hj14, ej14⟩ := inSub (N := j9) (by omega) q13
    exact ret_z B hr hlk hP hS dX7_isRadio_15 (Or.inr rfl) (⟨rfl, hI, (Or.inr ⟨rfl, (iR_w (a := 0) (b := 5) (show iR a1 0 5 from by rw [ej14]; exact nI_iR (by omega) (by omega) (by omega)) (by decide) (by decide))⟩)⟩)
  · skip
    exact ret_z B hr hlk hP hS dX7_isRadio_15 (Or.inl rfl) (⟨rfl, hI, (Or.inl rfl)⟩)

theorem lk_RX7_78 : LkV RX7 78 RX7 yX7_isNet cX7_isNet 2 (some .boolean) 1 := ⟨⟨mw_1123, mw_1125, mw_11, mw_59, mw_1126⟩, by decide +kernel⟩
set_option maxHeartbeats 4000000 in
set_option maxRecDepth 100000 in
theorem d_X7_isLink (l : Launch) (E : hE) (ρ r : Nat → Nat → Int32) (Bt : Nat) (hBt : Bt ≤ 1000000) (M : Nat → Int32) (L : Nat → Nat) (X : Nat × Nat → Prop) (a1 : Int32) (a2 : Int32) (hI : RI r Bt M L X ρ) : Met l yX7_isLink (.code yX7_isLink cX7_isLink 3 (some .boolean) :: gw_all) (rmk 3 120) (cPre E ρ [.ref (E.2.1 + 1076), .int a1, .int a2]) (cI E (fun v ρ1 => ρ = ρ1 ∧ RI r Bt M L X ρ1 ∧ (v = 0 ∨ v = 1 ∧ ∃ j : Nat, j < 2 ∧ a1 = nI j ∧ iR (M j) 0 5 ∧ ∃ i : Nat, i < L j ∧ a2 = nI i))) 0 0 (hA E) := by
  refine ent (own := RX7) (by decide) rfl (Nat.le_of_ble_eq_true rfl) ?_
  intro p e s m below meth c ls B hr hlk hl hP hS
  have hx := B.1.1
  have hb := B.1.2.1
  have hown := B.1.2.2.2.1
  have hts := B.1.2.2.2.2
  have hl : lv_has ls 3 [(0, .ref (E.2.1 + 1076)), (1, .int a1), (2, .int a2)] := hl
  refine lv_aload_n hx hb dX7_isLink_0 rfl (lv_at hl 0 rfl) ?_
  refine lv_iload_n hx hb dX7_isLink_1 rfl (lv_at hl 1 rfl) ?_
  refine call_i (cVt (k := 1076) (av := [.int a1]) (rest := []) B hP hS (d_X7_isNet l E ρ r Bt hBt M L X a1 hI) lk_RX7_78 (hrecv (ci := 7) B hP (hk_lt (c := 7) (show hk 1076 = 7 by decide +kernel) (by decide)) (hcc7 _ _ (show hk 1076 = 7 by decide +kernel)) rfl) rfl rfl hl.1 (Nat.le_of_ble_eq_true rfl) ⟨Nat.le_of_ble_eq_true rfl, Nat.le_of_ble_eq_true rfl⟩ ⟨Nat.le_of_ble_eq_true rfl, Nat.le_of_ble_eq_true rfl⟩ dX7_isLink_2) hS (fun r19 ρ20 H locs q21 hP hS => ?_)
  obtain ⟨rfl, hI, q21⟩ := q21
  rcases q21 with rfl | ⟨rfl, j22, hj22, ej22, i23⟩
  · skip
    refine lv_if_eq (tgt := 36) hx hb dX7_isLink_5 (by decide) (fun _ => ?_) (fun c24 => absurd rfl c24)
    refine lv_iconst (v := 0) hx hb dX7_isLink_36 (by decide) ?_
    exact ret_z B hr hlk hP hS dX7_isLink_37 (Or.inl rfl) (⟨rfl, hI, (Or.inl rfl)⟩)
  · skip
    refine lv_if_eq (tgt := 36) hx hb dX7_isLink_5 (by decide) (fun c25 => absurd c25 (iR_ne (show iR 1 (1) (1) from ⟨by decide, by decide⟩) (show iR 0 (0) (0) from ⟨by decide, by decide⟩) (by decide))) (fun _ => ?_)
    refine lv_iload_n hx hb dX7_isLink_8 rfl (lv_at hl 2 rfl) ?_
    refine lv_i2l hx hb dX7_isLink_9 rfl ?_
    refine lv_lconst (v := 0) hx hb dX7_isLink_10 (by decide) ?_
    refine lv_aload_n hx hb dX7_isLink_11 rfl (lv_at hl 0 rfl) ?_
    refine get7 B hP (show hk 1076 = 7 by decide +kernel) 3 (by decide) mw_1030 rfl dX7_isLink_12 ?_
    refine lv_iload_n hx hb dX7_isLink_15 rfl (lv_at hl 1 rfl) ?_
    refine lv_topi (fun z26 ez26 => ?_)
    obtain rfl : z26 = nI j22 := ez26.trans ej22
    refine call_i (cS (av := [.int (nI j22)]) (rest := [.ref (E.2.1 + 1078), .long 0, .long a2.toInt64]) B hP hS (d_X7_netAt l E ρ r Bt hBt M L X j22 (by omega) (by omega) hI) lk_RX7_75 rfl rfl hl.1 (Nat.le_of_ble_eq_true rfl) ⟨Nat.le_of_ble_eq_true rfl, Nat.le_of_ble_eq_true rfl⟩ ⟨Nat.le_of_ble_eq_true rfl, Nat.le_of_ble_eq_true rfl⟩ dX7_isLink_16) hS (fun r27 ρ28 H locs q29 hP hS => ?_)
    obtain ⟨rfl, hI, q29⟩ := q29
    obtain rfl : r27 = nI (42 + 326 * j22) := q29.trans (congrArg nI (by omega))
    refine lv_bipush (v := 6) hx hb dX7_isLink_19 (by decide) ?_
    refine lv_iadd hx hb dX7_isLink_21 ?_
    refine lv_topi (fun z30 ez30 => ?_)
    obtain rfl : z30 = (nI (48 + 326 * j22)) := ez30.trans (by rw [show (nI (42 + 326 * j22)) = nI (42 + 326 * j22) from rfl, show 6 = nI 6 from rfl, nI_add] <;> exact congrArg nI (by omega))
    have := RI_Lb (n := j22) hI (by omega)
    refine aldf (n := 695) (j := (48 + 326 * j22)) (v := (nI (L j22))) B hP (show hk 1078 = 8 by decide +kernel) (show hlen 1078 = 695 by decide +kernel) rfl (by omega) (by decide) (g_l (n0 := j22) hI (by omega) (by omega)) dX7_isLink_22 ?_
    refine lv_i2l hx hb dX7_isLink_23 rfl ?_
    refine lv_lconst (v := 1) hx hb dX7_isLink_24 (by decide) ?_
    refine lv_lsub hx hb dX7_isLink_25 ?_
    refine call_i (cS (av := [.long a2.toInt64, .long 0, .long ((nI (L j22)).toInt64 - 1)]) (rest := []) B hP hS (c_in l E ρ a2.toInt64 0 ((nI (L j22)).toInt64 - 1) 0 (((nI (L j22)).toInt64 - 1)).toInt (by decide) rfl) lk_RX7_71 rfl rfl hl.1 (Nat.le_of_ble_eq_true rfl) ⟨Nat.le_of_ble_eq_true rfl, Nat.le_of_ble_eq_true rfl⟩ ⟨Nat.le_of_ble_eq_true rfl, Nat.le_of_ble_eq_true rfl⟩ dX7_isLink_26) hS (fun r31 ρ32 H locs q33 hP hS => ?_)
    obtain ⟨rfl, q33⟩ := q33
    rcases q33 with ⟨rfl, q33⟩ | ⟨rfl, q33⟩
    · skip
      obtain ⟨j34, hj34, ej34⟩ := inSub (N := (L j22)) (by omega) q33
      refine lv_if_eq (tgt := 36) hx hb dX7_isLink_29 (by decide) (fun c35 => absurd c35 (iR_ne (show iR 1 (1) (1) from ⟨by decide, by decide⟩) (show iR 0 (0) (0) from ⟨by decide, by decide⟩) (by decide))) (fun _ => ?_)
      refine lv_iconst (v := 1) hx hb dX7_isLink_32 (by decide) ?_
      refine lv_goto (tgt := 37) hx hb dX7_isLink_33 (by decide) ?_
      exact ret_z B hr hlk hP hS dX7_isLink_37 (Or.inr rfl) (⟨rfl, hI, (Or.inr ⟨rfl, ⟨j22, by omega, ej22, i23, j34, by omega, ej34⟩⟩)⟩)
    · skip
      refine lv_if_eq (tgt := 36) hx hb dX7_isLink_29 (by decide) (fun _ => ?_) (fun c36 => absurd rfl c36)
      refine lv_iconst (v := 0) hx hb dX7_isLink_36 (by decide) ?_
      exact ret_z B hr hlk hP hS dX7_isLink_37 (Or.inl rfl) (⟨rfl, hI, (Or.inl rfl)⟩)

theorem lk_RX7_82 : LkS RX7 82 yX7_linkAt cX7_linkAt 2 (some .int) 2 := ⟨⟨mw_1139, mw_1140, mw_59, mw_1141⟩, by decide +kernel⟩
set_option maxHeartbeats 4000000 in
set_option maxRecDepth 100000 in
theorem d_X7_isIn (l : Launch) (E : hE) (ρ r : Nat → Nat → Int32) (Bt : Nat) (hBt : Bt ≤ 1000000) (M : Nat → Int32) (L : Nat → Nat) (X : Nat × Nat → Prop) (na1 : Nat) (lna1 : 0 ≤ na1) (una1 : na1 ≤ 1) (a2 : Int32) (hI : RI r Bt M L X ρ) : Met l yX7_isIn (.code yX7_isIn cX7_isIn 5 (some .boolean) :: gw_all) (rmk 3 120) (cPre E ρ [.ref (E.2.1 + 1076), .int (nI na1), .int a2]) (cI E (fun v ρ1 => ρ = ρ1 ∧ RI r Bt M L X ρ1 ∧ iR v (0) (1))) 0 0 (hA E) := by
  refine ent (own := RX7) (by decide) rfl (Nat.le_of_ble_eq_true rfl) ?_
  intro p e s m below meth c ls B hr hlk hl hP hS
  have hx := B.1.1
  have hb := B.1.2.1
  have hown := B.1.2.2.2.1
  have hts := B.1.2.2.2.2
  have hl : lv_has ls 5 [(0, .ref (E.2.1 + 1076)), (1, .int (nI na1)), (2, .int a2)] := hl
  have b30_0 : ∀ (ls : Array Slot) (H : Heap) (locs : List Loc) (d30 : Nat) (j30_3 : Nat) (j30_4 : Nat), lv_has ls 5 [(0, .ref (E.2.1 + 1076)), (1, .int (nI na1)), (2, .int a2), (3, .int (nI j30_3)), (4, .int (nI j30_4))] → WP E ρ H → va_S (hA E) s.heap H locs → 5 - j30_4 < d30 → 0 ≤ j30_3 → j30_3 ≤ 1 → 0 ≤ j30_4 → j30_4 ≤ 4 → 0 ≤ na1 → na1 ≤ 1 → W p l e (rmk 3 120) s m ([.ref (E.2.1 + 1076), .int (nI na1), .int a2] : List Value).toArray below meth c H locs 0 0 (MQ below (cI E (fun v ρ1 => ρ = ρ1 ∧ RI r Bt M L X ρ1 ∧ iR v (0) (1))) ([.ref (E.2.1 + 1076), .int (nI na1), .int a2] : List Value).toArray s 0 0 (hA E)) (F0 m 30 ls []) := by
    intro ls H locs d30
    induction d30 generalizing ls H locs with
    | zero => intro j30_3 j30_4 hl hP hS hd30 lj30_3 uj30_3 lj30_4 uj30_4 tlna1 tuna1; exact absurd hd30 (Nat.not_lt_zero _)
    | succ d30 ih30 =>
      intro j30_3 j30_4 hl hP hS hd30 lj30_3 uj30_3 lj30_4 uj30_4 tlna1 tuna1
      have b79_0 : ∀ (ls : Array Slot) (H : Heap) (locs : List Loc) , lv_has ls 5 [(0, .ref (E.2.1 + 1076)), (1, .int (nI na1)), (2, .int a2), (4, .int (nI j30_4))] → WP E ρ H → va_S (hA E) s.heap H locs → iR (M na1) (0) (5) → 1 ≤ (L na1) → (L na1) ≤ 4 → 0 ≤ j30_3 → j30_3 ≤ 0 → 0 ≤ j30_4 → j30_4 ≤ 3 → 0 ≤ na1 → na1 ≤ 1 → j30_4 + 1 ≤ L na1 → W p l e (rmk 3 120) s m ([.ref (E.2.1 + 1076), .int (nI na1), .int a2] : List Value).toArray below meth c H locs 0 0 (MQ below (cI E (fun v ρ1 => ρ = ρ1 ∧ RI r Bt M L X ρ1 ∧ iR v (0) (1))) ([.ref (E.2.1 + 1076), .int (nI na1), .int a2] : List Value).toArray s 0 0 (hA E)) (F0 m 79 ls [.int 0]) := by
        intro ls H locs  hl hP hS f_M_na1_ tl_L_na1_ tu_L_na1_ tlj30_3 tuj30_3 tlj30_4 tuj30_4 tlna1 tuna1 hr79_0
        refine lv_istore_n (lv' := [(3, .int 0), (0, .ref (E.2.1 + 1076)), (1, .int (nI na1)), (2, .int a2), (4, .int (nI j30_4))]) hx hb dX7_isIn_79 rfl hl (by decide) rfl (fun ls hl => ?_)
        refine lv_iinc (v := (nI (1 + j30_4))) (lv' := [(4, .int (nI (1 + j30_4))), (3, .int 0), (0, .ref (E.2.1 + 1076)), (1, .int (nI na1)), (2, .int a2)]) hx hb dX7_isIn_80 hl (k := 4) rfl (show nI j30_4 + nI 1 = _ from (nI_add _ _).trans (congrArg nI (by omega))) (by decide) rfl (fun ls hl => ?_)
        refine lv_goto (tgt := 30) hx hb dX7_isIn_83 (by decide) ?_
        exact ih30 ls _ _ 0 (1 + j30_4) (lv_sub hl [2, 3, 4, 1, 0] rfl) hP hS (by omega) (by omega) (by omega) (by omega) (by omega) (by omega) (by omega)
      have b79_1 : ∀ (ls : Array Slot) (H : Heap) (locs : List Loc) , lv_has ls 5 [(0, .ref (E.2.1 + 1076)), (1, .int (nI na1)), (2, .int a2), (4, .int (nI j30_4))] → WP E ρ H → va_S (hA E) s.heap H locs → iR (M na1) (0) (5) → 1 ≤ (L na1) → (L na1) ≤ 4 → 0 ≤ j30_3 → j30_3 ≤ 1 → 0 ≤ j30_4 → j30_4 ≤ 3 → 0 ≤ na1 → na1 ≤ 1 → j30_4 + 1 ≤ L na1 → W p l e (rmk 3 120) s m ([.ref (E.2.1 + 1076), .int (nI na1), .int a2] : List Value).toArray below meth c H locs 0 0 (MQ below (cI E (fun v ρ1 => ρ = ρ1 ∧ RI r Bt M L X ρ1 ∧ iR v (0) (1))) ([.ref (E.2.1 + 1076), .int (nI na1), .int a2] : List Value).toArray s 0 0 (hA E)) (F0 m 79 ls [.int 1]) := by
        intro ls H locs  hl hP hS f_M_na1_ tl_L_na1_ tu_L_na1_ tlj30_3 tuj30_3 tlj30_4 tuj30_4 tlna1 tuna1 hr79_0
        refine lv_istore_n (lv' := [(3, .int 1), (0, .ref (E.2.1 + 1076)), (1, .int (nI na1)), (2, .int a2), (4, .int (nI j30_4))]) hx hb dX7_isIn_79 rfl hl (by decide) rfl (fun ls hl => ?_)
        refine lv_iinc (v := (nI (1 + j30_4))) (lv' := [(4, .int (nI (1 + j30_4))), (3, .int 1), (0, .ref (E.2.1 + 1076)), (1, .int (nI na1)), (2, .int a2)]) hx hb dX7_isIn_80 hl (k := 4) rfl (show nI j30_4 + nI 1 = _ from (nI_add _ _).trans (congrArg nI (by omega))) (by decide) rfl (fun ls hl => ?_)
        refine lv_goto (tgt := 30) hx hb dX7_isIn_83 (by decide) ?_
        exact ih30 ls _ _ 1 (1 + j30_4) (lv_sub hl [2, 3, 4, 1, 0] rfl) hP hS (by omega) (by omega) (by omega) (by omega) (by omega) (by omega) (by omega)
      have b74_0 : ∀ (ls : Array Slot) (H : Heap) (locs : List Loc) , lv_has ls 5 [(0, .ref (E.2.1 + 1076)), (1, .int (nI na1)), (2, .int a2), (4, .int (nI j30_4))] → WP E ρ H → va_S (hA E) s.heap H locs → iR (M na1) (0) (5) → 1 ≤ (L na1) → (L na1) ≤ 4 → 0 ≤ j30_3 → j30_3 ≤ 1 → 0 ≤ j30_4 → j30_4 ≤ 3 → 0 ≤ na1 → na1 ≤ 1 → j30_4 + 1 ≤ L na1 → W p l e (rmk 3 120) s m ([.ref (E.2.1 + 1076), .int (nI na1), .int a2] : List Value).toArray below meth c H locs 0 0 (MQ below (cI E (fun v ρ1 => ρ = ρ1 ∧ RI r Bt M L X ρ1 ∧ iR v (0) (1))) ([.ref (E.2.1 + 1076), .int (nI na1), .int a2] : List Value).toArray s 0 0 (hA E)) (F0 m 74 ls []) := by
        intro ls H locs  hl hP hS f_M_na1_ tl_L_na1_ tu_L_na1_ tlj30_3 tuj30_3 tlj30_4 tuj30_4 tlna1 tuna1 hr74_0
        refine lv_iconst (v := 1) hx hb dX7_isIn_74 (by decide) ?_
        refine lv_goto (tgt := 79) hx hb dX7_isIn_75 (by decide) ?_
        exact b79_1 ls _ _  (lv_sub hl [0, 1, 2, 3] rfl) hP hS (iR_w f_M_na1_ (by decide) (by decide)) (by omega) (by omega) (by omega) (by omega) (by omega) (by omega) (by omega) (by omega) (by omega)
      refine lv_aload_n hx hb dX7_isIn_30 rfl (lv_at hl 0 rfl) ?_
      refine lv_iload_n hx hb dX7_isIn_31 rfl (lv_at hl 1 rfl) ?_
      refine call_i (cVt (k := 1076) (av := [.int (nI na1)]) (rest := []) B hP hS (d_X7_isNet l E ρ r Bt hBt M L X (nI na1) hI) lk_RX7_78 (hrecv (ci := 7) B hP (hk_lt (c := 7) (show hk 1076 = 7 by decide +kernel) (by decide)) (hcc7 _ _ (show hk 1076 = 7 by decide +kernel)) rfl) rfl rfl hl.1 (Nat.le_of_ble_eq_true rfl) ⟨Nat.le_of_ble_eq_true rfl, Nat.le_of_ble_eq_true rfl⟩ ⟨Nat.le_of_ble_eq_true rfl, Nat.le_of_ble_eq_true rfl⟩ dX7_isIn_32) hS (fun r129 ρ130 H locs q131 hP hS => ?_)
      obtain ⟨rfl, hI, q131⟩ := q131
      rcases q131 with rfl | ⟨rfl, j132, hj132, ej132, i133⟩
      · skip
        refine lv_if_eq (tgt := 86) hx hb dX7_isIn_35 (by decide) (fun _ => ?_) (fun c134 => absurd rfl c134)
        refine lv_iload_n hx hb dX7_isIn_86 rfl (lv_at hl 3 rfl) ?_
        exact ret_z B hr hlk hP hS dX7_isIn_87 (b01 (iR_w (a := 0) (b := 1) (nI_iR (j := j30_3) (a := 0) (b := 1) (by omega) (by omega) (by omega)) (by decide) (by decide))) (⟨rfl, hI, (iR_w (a := 0) (b := 1) (nI_iR (j := j30_3) (a := 0) (b := 1) (by omega) (by omega) (by omega)) (by decide) (by decide))⟩)
      · skip
        have n135 : na1 = j132 := (nI_eq (by omega) (by omega)).mp (show nI na1 = nI j132 from ej132)
        have i136 : iR (M na1) 0 5 := by rw [n135]; exact i133
        refine lv_if_eq (tgt := 86) hx hb dX7_isIn_35 (by decide) (fun c137 => absurd c137 (iR_ne (show iR 1 (1) (1) from ⟨by decide, by decide⟩) (show iR 0 (0) (0) from ⟨by decide, by decide⟩) (by decide))) (fun _ => ?_)
        refine lv_iload hx hb dX7_isIn_38 (lv_at hl 4 rfl) ?_
        refine lv_aload_n hx hb dX7_isIn_40 rfl (lv_at hl 0 rfl) ?_
        refine get7 B hP (show hk 1076 = 7 by decide +kernel) 3 (by decide) mw_1030 rfl dX7_isIn_41 ?_
        refine lv_iload_n hx hb dX7_isIn_44 rfl (lv_at hl 1 rfl) ?_
        refine call_i (cS (av := [.int (nI na1)]) (rest := [.ref (E.2.1 + 1078), .int (nI j30_4)]) B hP hS (d_X7_netAt l E ρ r Bt hBt M L X na1 (by omega) (by omega) hI) lk_RX7_75 rfl rfl hl.1 (Nat.le_of_ble_eq_true rfl) ⟨Nat.le_of_ble_eq_true rfl, Nat.le_of_ble_eq_true rfl⟩ ⟨Nat.le_of_ble_eq_true rfl, Nat.le_of_ble_eq_true rfl⟩ dX7_isIn_45) hS (fun r138 ρ139 H locs q140 hP hS => ?_)
        obtain ⟨rfl, hI, q140⟩ := q140
        obtain rfl : r138 = nI (42 + 326 * na1) := q140.trans (congrArg nI (by omega))
        refine lv_bipush (v := 6) hx hb dX7_isIn_48 (by decide) ?_
        refine lv_iadd hx hb dX7_isIn_50 ?_
        refine lv_topi (fun z141 ez141 => ?_)
        obtain rfl : z141 = (nI (48 + 326 * na1)) := ez141.trans (by rw [show (nI (42 + 326 * na1)) = nI (42 + 326 * na1) from rfl, show 6 = nI 6 from rfl, nI_add] <;> exact congrArg nI (by omega))
        have := RI_Lb (n := na1) hI (by omega)
        refine aldf (n := 695) (j := (48 + 326 * na1)) (v := (nI (L na1))) B hP (show hk 1078 = 8 by decide +kernel) (show hlen 1078 = 695 by decide +kernel) rfl (by omega) (by decide) (g_l (n0 := na1) hI (by omega) (by omega)) dX7_isIn_51 ?_
        refine lv_icmp_ge (tgt := 86) hx hb dX7_isIn_52 (by decide) (fun c142 => ?_) (fun c142 => ?_)
        · skip
          have n143 := mt (nx_lt (a := j30_4) (b := (L na1)) (by omega) (by omega)).mpr (show ¬ (nI j30_4 < nI (L na1)) from (Int32.not_lt.mpr c142))
          refine lv_iload_n hx hb dX7_isIn_86 rfl (lv_at hl 3 rfl) ?_
          exact ret_z B hr hlk hP hS dX7_isIn_87 (b01 (iR_w (a := 0) (b := 1) (nI_iR (j := j30_3) (a := 0) (b := 1) (by omega) (by omega) (by omega)) (by decide) (by decide))) (⟨rfl, hI, (iR_w (a := 0) (b := 1) (nI_iR (j := j30_3) (a := 0) (b := 1) (by omega) (by omega) (by omega)) (by decide) (by decide))⟩)
        · skip
          have n144 := (nx_lt (a := j30_4) (b := (L na1)) (by omega) (by omega)).mp (show (nI j30_4 < nI (L na1)) from (Int32.not_le.mp c142))
          refine lv_iload_n hx hb dX7_isIn_55 rfl (lv_at hl 3 rfl) ?_
          refine lv_if_ne (tgt := 74) hx hb dX7_isIn_56 (by decide) (fun c145 => ?_) (fun c145 => ?_)
          · skip
            have n146 := mt (nI_eq (a := j30_3) (b := 0) (by omega) (by omega)).mpr (show ¬ (nI j30_3 = nI 0) from c145)
            exact b74_0 ls _ _  (lv_sub hl [0, 1, 2, 4] rfl) hP hS (iR_w i136 (by decide) (by decide)) (by omega) (by omega) (by omega) (by omega) (by omega) (by omega) (by omega) (by omega) (by omega)
          · skip
            have n147 := (nI_eq (a := j30_3) (b := 0) (by omega) (by omega)).mp (show (nI j30_3 = nI 0) from c145)
            refine lv_aload_n hx hb dX7_isIn_59 rfl (lv_at hl 0 rfl) ?_
            refine get7 B hP (show hk 1076 = 7 by decide +kernel) 3 (by decide) mw_1030 rfl dX7_isIn_60 ?_
            refine lv_iload_n hx hb dX7_isIn_63 rfl (lv_at hl 1 rfl) ?_
            refine lv_iload hx hb dX7_isIn_64 (lv_at hl 4 rfl) ?_
            refine call_i (cS (av := [.int (nI na1), .int (nI j30_4)]) (rest := [.ref (E.2.1 + 1078)]) B hP hS (d_X7_linkAt l E ρ r Bt hBt M L X na1 (by omega) (by omega) j30_4 (by omega) (by omega) hI) lk_RX7_82 rfl rfl hl.1 (Nat.le_of_ble_eq_true rfl) ⟨Nat.le_of_ble_eq_true rfl, Nat.le_of_ble_eq_true rfl⟩ ⟨Nat.le_of_ble_eq_true rfl, Nat.le_of_ble_eq_true rfl⟩ dX7_isIn_66) hS (fun r148 ρ149 H locs q150 hP hS => ?_)
            obtain ⟨rfl, hI, q150⟩ := q150
            obtain rfl : r148 = nI (104 + 326 * na1 + 66 * j30_4) := q150.trans (congrArg nI (by omega))
            refine aldn (n := 695) (j := (104 + 326 * na1 + 66 * j30_4)) B hP (show hk 1078 = 8 by decide +kernel) (show hlen 1078 = 695 by decide +kernel) rfl (by omega) (by decide) dX7_isIn_69 ?_
            refine lv_iload_n hx hb dX7_isIn_70 rfl (lv_at hl 2 rfl) ?_
            refine lv_icmp_ne (tgt := 78) hx hb dX7_isIn_71 (by decide) (fun c151 => ?_) (fun c151 => ?_)
            · skip
              refine lv_iconst (v := 0) hx hb dX7_isIn_78 (by decide) ?_
              exact b79_0 ls _ _  (lv_sub hl [0, 1, 2, 4] rfl) hP hS (iR_w i136 (by decide) (by decide)) (by omega) (by omega) (by omega) (by omega) (by omega) (by omega) (by omega) (by omega) (by omega)
            · skip
              exact b74_0 ls _ _  (lv_sub hl [0, 1, 2, 4] rfl) hP hS (iR_w i136 (by decide) (by decide)) (by omega) (by omega) (by omega) (by omega) (by omega) (by omega) (by omega) (by omega) (by omega)
  have b26_0 : ∀ (ls : Array Slot) (H : Heap) (locs : List Loc) , lv_has ls 5 [(0, .ref (E.2.1 + 1076)), (1, .int (nI na1)), (2, .int a2)] → WP E ρ H → va_S (hA E) s.heap H locs → 0 ≤ na1 → na1 ≤ 1 → W p l e (rmk 3 120) s m ([.ref (E.2.1 + 1076), .int (nI na1), .int a2] : List Value).toArray below meth c H locs 0 0 (MQ below (cI E (fun v ρ1 => ρ = ρ1 ∧ RI r Bt M L X ρ1 ∧ iR v (0) (1))) ([.ref (E.2.1 + 1076), .int (nI na1), .int a2] : List Value).toArray s 0 0 (hA E)) (F0 m 26 ls [.int 0]) := by
    intro ls H locs  hl hP hS tlna1 tuna1
    refine lv_istore_n (lv' := [(3, .int 0), (0, .ref (E.2.1 + 1076)), (1, .int (nI na1)), (2, .int a2)]) hx hb dX7_isIn_26 rfl hl (by decide) rfl (fun ls hl => ?_)
    refine lv_iconst (v := 0) hx hb dX7_isIn_27 (by decide) ?_
    refine lv_istore (lv' := [(4, .int 0), (3, .int 0), (0, .ref (E.2.1 + 1076)), (1, .int (nI na1)), (2, .int a2)]) hx hb dX7_isIn_28 hl (by decide) rfl (fun ls hl => ?_)
    exact b30_0 ls _ _ _ 0 0 (lv_sub hl [2, 3, 4, 1, 0] rfl) hP hS (Nat.lt_succ_self _) (by omega) (by omega) (by omega) (by omega) (by omega) (by omega)
  have b26_1 : ∀ (ls : Array Slot) (H : Heap) (locs : List Loc) , lv_has ls 5 [(0, .ref (E.2.1 + 1076)), (1, .int (nI na1)), (2, .int a2)] → WP E ρ H → va_S (hA E) s.heap H locs → iR (M na1) (0) (5) → 0 ≤ na1 → na1 ≤ 1 → W p l e (rmk 3 120) s m ([.ref (E.2.1 + 1076), .int (nI na1), .int a2] : List Value).toArray below meth c H locs 0 0 (MQ below (cI E (fun v ρ1 => ρ = ρ1 ∧ RI r Bt M L X ρ1 ∧ iR v (0) (1))) ([.ref (E.2.1 + 1076), .int (nI na1), .int a2] : List Value).toArray s 0 0 (hA E)) (F0 m 26 ls [.int 1]) := by
    intro ls H locs  hl hP hS f_M_na1_ tlna1 tuna1
    refine lv_istore_n (lv' := [(3, .int 1), (0, .ref (E.2.1 + 1076)), (1, .int (nI na1)), (2, .int a2)]) hx hb dX7_isIn_26 rfl hl (by decide) rfl (fun ls hl => ?_)
    refine lv_iconst (v := 0) hx hb dX7_isIn_27 (by decide) ?_
    refine lv_istore (lv' := [(4, .int 0), (3, .int 1), (0, .ref (E.2.1 + 1076)), (1, .int (nI na1)), (2, .int a2)]) hx hb dX7_isIn_28 hl (by decide) rfl (fun ls hl => ?_)
    exact b30_0 ls _ _ _ 1 0 (lv_sub hl [2, 3, 4, 1, 0] rfl) hP hS (Nat.lt_succ_self _) (by omega) (by omega) (by omega) (by omega) (by omega) (by omega)
  have b25_0 : ∀ (ls : Array Slot) (H : Heap) (locs : List Loc) , lv_has ls 5 [(0, .ref (E.2.1 + 1076)), (1, .int (nI na1)), (2, .int a2)] → WP E ρ H → va_S (hA E) s.heap H locs → 0 ≤ na1 → na1 ≤ 1 → W p l e (rmk 3 120) s m ([.ref (E.2.1 + 1076), .int (nI na1), .int a2] : List Value).toArray below meth c H locs 0 0 (MQ below (cI E (fun v ρ1 => ρ = ρ1 ∧ RI r Bt M L X ρ1 ∧ iR v (0) (1))) ([.ref (E.2.1 + 1076), .int (nI na1), .int a2] : List Value).toArray s 0 0 (hA E)) (F0 m 25 ls []) := by
    intro ls H locs  hl hP hS tlna1 tuna1
    refine lv_iconst (v := 0) hx hb dX7_isIn_25 (by decide) ?_
    exact b26_0 ls _ _  (lv_sub hl [0, 1, 2] rfl) hP hS (by omega) (by omega)
  refine lv_aload_n hx hb dX7_isIn_0 rfl (lv_at hl 0 rfl) ?_
  refine lv_iload_n hx hb dX7_isIn_1 rfl (lv_at hl 1 rfl) ?_
  refine call_i (cVt (k := 1076) (av := [.int (nI na1)]) (rest := []) B hP hS (d_X7_isNet l E ρ r Bt hBt M L X (nI na1) hI) lk_RX7_78 (hrecv (ci := 7) B hP (hk_lt (c := 7) (show hk 1076 = 7 by decide +kernel) (by decide)) (hcc7 _ _ (show hk 1076 = 7 by decide +kernel)) rfl) rfl rfl hl.1 (Nat.le_of_ble_eq_true rfl) ⟨Nat.le_of_ble_eq_true rfl, Nat.le_of_ble_eq_true rfl⟩ ⟨Nat.le_of_ble_eq_true rfl, Nat.le_of_ble_eq_true rfl⟩ dX7_isIn_2) hS (fun r152 ρ153 H locs q154 hP hS => ?_)
  obtain ⟨rfl, hI, q154⟩ := q154
  rcases q154 with rfl | ⟨rfl, j155, hj155, ej155, i156⟩
  · skip
    refine lv_if_eq (tgt := 25) hx hb dX7_isIn_5 (by decide) (fun _ => ?_) (fun c157 => absurd rfl c157)
    exact b25_0 ls _ _  (lv_sub hl [0, 1, 2] rfl) hP hS (by omega) (by omega)
  · skip
    have n158 : na1 = j155 := (nI_eq (by omega) (by omega)).mp (show nI na1 = nI j155 from ej155)
    have i159 : iR (M na1) 0 5 := by rw [n158]; exact i156
    refine lv_if_eq (tgt := 25) hx hb dX7_isIn_5 (by decide) (fun c160 => absurd c160 (iR_ne (show iR 1 (1) (1) from ⟨by decide, by decide⟩) (show iR 0 (0) (0) from ⟨by decide, by decide⟩) (by decide))) (fun _ => ?_)
    refine lv_aload_n hx hb dX7_isIn_8 rfl (lv_at hl 0 rfl) ?_
    refine get7 B hP (show hk 1076 = 7 by decide +kernel) 3 (by decide) mw_1030 rfl dX7_isIn_9 ?_
    refine lv_iload_n hx hb dX7_isIn_12 rfl (lv_at hl 1 rfl) ?_
    refine call_i (cS (av := [.int (nI na1)]) (rest := [.ref (E.2.1 + 1078)]) B hP hS (d_X7_netAt l E ρ r Bt hBt M L X na1 (by omega) (by omega) hI) lk_RX7_75 rfl rfl hl.1 (Nat.le_of_ble_eq_true rfl) ⟨Nat.le_of_ble_eq_true rfl, Nat.le_of_ble_eq_true rfl⟩ ⟨Nat.le_of_ble_eq_true rfl, Nat.le_of_ble_eq_true rfl⟩ dX7_isIn_13) hS (fun r161 ρ162 H locs q163 hP hS => ?_)
    obtain ⟨rfl, hI, q163⟩ := q163
    obtain rfl : r161 = nI (42 + 326 * na1) := q163.trans (congrArg nI (by omega))
    refine aldf (n := 695) (j := (42 + 326 * na1)) (v := (M na1)) B hP (show hk 1078 = 8 by decide +kernel) (show hlen 1078 = 695 by decide +kernel) rfl (by omega) (by decide) (g_m (n0 := na1) hI (by omega) (by omega)) dX7_isIn_16 ?_
    refine lv_iload_n hx hb dX7_isIn_17 rfl (lv_at hl 2 rfl) ?_
    refine lv_icmp_ne (tgt := 25) hx hb dX7_isIn_18 (by decide) (fun c164 => ?_) (fun c164 => ?_)
    · skip
      exact b25_0 ls _ _  (lv_sub hl [0, 1, 2] rfl) hP hS (by omega) (by omega)
    · skip
      refine lv_iconst (v := 1) hx hb dX7_isIn_21 (by decide) ?_
      refine lv_goto (tgt := 26) hx hb dX7_isIn_22 (by decide) ?_
      exact b26_1 ls _ _  (lv_sub hl [0, 1, 2] rfl) hP hS (iR_w i159 (by decide) (by decide)) (by omega) (by omega)

theorem lk_RX7_86 : LkV RX7 86 RX7 yX7_isIn cX7_isIn 5 (some .boolean) 2 := ⟨⟨mw_1174, mw_1176, mw_17, mw_59, mw_1177⟩, by decide +kernel⟩
set_option maxHeartbeats 4000000 in
set_option maxRecDepth 100000 in
theorem d_X7_isHere (l : Launch) (E : hE) (ρ r : Nat → Nat → Int32) (Bt : Nat) (hBt : Bt ≤ 1000000) (M : Nat → Int32) (L : Nat → Nat) (X : Nat × Nat → Prop) (na1 : Nat) (lna1 : 0 ≤ na1) (una1 : na1 ≤ 1) (a2 : Int32) (a3 : Int32) (hI : RI r Bt M L X ρ) : Met l yX7_isHere (.code yX7_isHere cX7_isHere 4 (some .boolean) :: gw_all) (rmk 4 160) (cPre E ρ [.ref (E.2.1 + 1076), .int (nI na1), .int a2, .int a3]) (cI E (fun v ρ1 => ρ = ρ1 ∧ RI r Bt M L X ρ1 ∧ iR v (0) (1))) 0 0 (hA E) := by
  refine ent (own := RX7) (by decide) rfl (Nat.le_of_ble_eq_true rfl) ?_
  intro p e s m below meth c ls B hr hlk hl hP hS
  have hx := B.1.1
  have hb := B.1.2.1
  have hown := B.1.2.2.2.1
  have hts := B.1.2.2.2.2
  have hl : lv_has ls 4 [(0, .ref (E.2.1 + 1076)), (1, .int (nI na1)), (2, .int a2), (3, .int a3)] := hl
  have b48_0 : ∀ (ls : Array Slot) (H : Heap) (locs : List Loc) , lv_has ls 4 [] → WP E ρ H → va_S (hA E) s.heap H locs → 1 ≤ na1 → na1 ≤ 1 → W p l e (rmk 4 160) s m ([.ref (E.2.1 + 1076), .int (nI na1), .int a2, .int a3] : List Value).toArray below meth c H locs 0 0 (MQ below (cI E (fun v ρ1 => ρ = ρ1 ∧ RI r Bt M L X ρ1 ∧ iR v (0) (1))) ([.ref (E.2.1 + 1076), .int (nI na1), .int a2, .int a3] : List Value).toArray s 0 0 (hA E)) (F0 m 48 ls [.int 0, .int 0]) := by
    intro ls H locs  hl hP hS tlna1 tuna1
    refine lv_icmp_ne (tgt := 55) hx hb dX7_isHere_48 (by decide) (fun c30 => absurd rfl c30) (fun _ => ?_)
    refine lv_iconst (v := 1) hx hb dX7_isHere_51 (by decide) ?_
    refine lv_goto (tgt := 56) hx hb dX7_isHere_52 (by decide) ?_
    exact ret_z B hr hlk hP hS dX7_isHere_56 (Or.inr rfl) (⟨rfl, hI, (iR_w (a := 1) (b := 1) (show iR 1 (1) (1) from ⟨by decide, by decide⟩) (by decide) (by decide))⟩)
  have b48_1 : ∀ (ls : Array Slot) (H : Heap) (locs : List Loc) , lv_has ls 4 [] → WP E ρ H → va_S (hA E) s.heap H locs → 0 ≤ na1 → na1 ≤ 0 → W p l e (rmk 4 160) s m ([.ref (E.2.1 + 1076), .int (nI na1), .int a2, .int a3] : List Value).toArray below meth c H locs 0 0 (MQ below (cI E (fun v ρ1 => ρ = ρ1 ∧ RI r Bt M L X ρ1 ∧ iR v (0) (1))) ([.ref (E.2.1 + 1076), .int (nI na1), .int a2, .int a3] : List Value).toArray s 0 0 (hA E)) (F0 m 48 ls [.int 1, .int 0]) := by
    intro ls H locs  hl hP hS tlna1 tuna1
    refine lv_icmp_ne (tgt := 55) hx hb dX7_isHere_48 (by decide) (fun _ => ?_) (fun c31 => absurd c31 (iR_ne (show iR 0 (0) (0) from ⟨by decide, by decide⟩) (show iR 1 (1) (1) from ⟨by decide, by decide⟩) (by decide)))
    refine lv_iconst (v := 0) hx hb dX7_isHere_55 (by decide) ?_
    exact ret_z B hr hlk hP hS dX7_isHere_56 (Or.inl rfl) (⟨rfl, hI, (iR_w (a := 0) (b := 0) (show iR 0 (0) (0) from ⟨by decide, by decide⟩) (by decide) (by decide))⟩)
  have b48_2 : ∀ (ls : Array Slot) (H : Heap) (locs : List Loc) , lv_has ls 4 [] → WP E ρ H → va_S (hA E) s.heap H locs → 1 ≤ na1 → na1 ≤ 1 → W p l e (rmk 4 160) s m ([.ref (E.2.1 + 1076), .int (nI na1), .int a2, .int a3] : List Value).toArray below meth c H locs 0 0 (MQ below (cI E (fun v ρ1 => ρ = ρ1 ∧ RI r Bt M L X ρ1 ∧ iR v (0) (1))) ([.ref (E.2.1 + 1076), .int (nI na1), .int a2, .int a3] : List Value).toArray s 0 0 (hA E)) (F0 m 48 ls [.int 0, .int 1]) := by
    intro ls H locs  hl hP hS tlna1 tuna1
    refine lv_icmp_ne (tgt := 55) hx hb dX7_isHere_48 (by decide) (fun _ => ?_) (fun c32 => absurd c32 (iR_ne (show iR 1 (1) (1) from ⟨by decide, by decide⟩) (show iR 0 (0) (0) from ⟨by decide, by decide⟩) (by decide)))
    refine lv_iconst (v := 0) hx hb dX7_isHere_55 (by decide) ?_
    exact ret_z B hr hlk hP hS dX7_isHere_56 (Or.inl rfl) (⟨rfl, hI, (iR_w (a := 0) (b := 0) (show iR 0 (0) (0) from ⟨by decide, by decide⟩) (by decide) (by decide))⟩)
  have b48_3 : ∀ (ls : Array Slot) (H : Heap) (locs : List Loc) , lv_has ls 4 [] → WP E ρ H → va_S (hA E) s.heap H locs → 0 ≤ na1 → na1 ≤ 0 → W p l e (rmk 4 160) s m ([.ref (E.2.1 + 1076), .int (nI na1), .int a2, .int a3] : List Value).toArray below meth c H locs 0 0 (MQ below (cI E (fun v ρ1 => ρ = ρ1 ∧ RI r Bt M L X ρ1 ∧ iR v (0) (1))) ([.ref (E.2.1 + 1076), .int (nI na1), .int a2, .int a3] : List Value).toArray s 0 0 (hA E)) (F0 m 48 ls [.int 1, .int 1]) := by
    intro ls H locs  hl hP hS tlna1 tuna1
    refine lv_icmp_ne (tgt := 55) hx hb dX7_isHere_48 (by decide) (fun c33 => absurd rfl c33) (fun _ => ?_)
    refine lv_iconst (v := 1) hx hb dX7_isHere_51 (by decide) ?_
    refine lv_goto (tgt := 56) hx hb dX7_isHere_52 (by decide) ?_
    exact ret_z B hr hlk hP hS dX7_isHere_56 (Or.inr rfl) (⟨rfl, hI, (iR_w (a := 1) (b := 1) (show iR 1 (1) (1) from ⟨by decide, by decide⟩) (by decide) (by decide))⟩)
  have b39_0 : ∀ (ls : Array Slot) (H : Heap) (locs : List Loc) , lv_has ls 4 [(1, .int (nI na1))] → WP E ρ H → va_S (hA E) s.heap H locs → 0 ≤ na1 → na1 ≤ 1 → W p l e (rmk 4 160) s m ([.ref (E.2.1 + 1076), .int (nI na1), .int a2, .int a3] : List Value).toArray below meth c H locs 0 0 (MQ below (cI E (fun v ρ1 => ρ = ρ1 ∧ RI r Bt M L X ρ1 ∧ iR v (0) (1))) ([.ref (E.2.1 + 1076), .int (nI na1), .int a2, .int a3] : List Value).toArray s 0 0 (hA E)) (F0 m 39 ls [.int 0]) := by
    intro ls H locs  hl hP hS tlna1 tuna1
    refine lv_iload_n hx hb dX7_isHere_39 rfl (lv_at hl 0 rfl) ?_
    refine lv_if_ne (tgt := 47) hx hb dX7_isHere_40 (by decide) (fun c34 => ?_) (fun c34 => ?_)
    · skip
      have n35 := mt (nI_eq (a := na1) (b := 0) (by omega) (by omega)).mpr (show ¬ (nI na1 = nI 0) from c34)
      refine lv_iconst (v := 0) hx hb dX7_isHere_47 (by decide) ?_
      exact b48_0 ls _ _  (lv_sub hl [] rfl) hP hS (by omega) (by omega)
    · skip
      have n36 := (nI_eq (a := na1) (b := 0) (by omega) (by omega)).mp (show (nI na1 = nI 0) from c34)
      refine lv_iconst (v := 1) hx hb dX7_isHere_43 (by decide) ?_
      refine lv_goto (tgt := 48) hx hb dX7_isHere_44 (by decide) ?_
      exact b48_1 ls _ _  (lv_sub hl [] rfl) hP hS (by omega) (by omega)
  have b39_1 : ∀ (ls : Array Slot) (H : Heap) (locs : List Loc) , lv_has ls 4 [(1, .int (nI na1))] → WP E ρ H → va_S (hA E) s.heap H locs → 0 ≤ na1 → na1 ≤ 1 → W p l e (rmk 4 160) s m ([.ref (E.2.1 + 1076), .int (nI na1), .int a2, .int a3] : List Value).toArray below meth c H locs 0 0 (MQ below (cI E (fun v ρ1 => ρ = ρ1 ∧ RI r Bt M L X ρ1 ∧ iR v (0) (1))) ([.ref (E.2.1 + 1076), .int (nI na1), .int a2, .int a3] : List Value).toArray s 0 0 (hA E)) (F0 m 39 ls [.int 1]) := by
    intro ls H locs  hl hP hS tlna1 tuna1
    refine lv_iload_n hx hb dX7_isHere_39 rfl (lv_at hl 0 rfl) ?_
    refine lv_if_ne (tgt := 47) hx hb dX7_isHere_40 (by decide) (fun c37 => ?_) (fun c37 => ?_)
    · skip
      have n38 := mt (nI_eq (a := na1) (b := 0) (by omega) (by omega)).mpr (show ¬ (nI na1 = nI 0) from c37)
      refine lv_iconst (v := 0) hx hb dX7_isHere_47 (by decide) ?_
      exact b48_2 ls _ _  (lv_sub hl [] rfl) hP hS (by omega) (by omega)
    · skip
      have n39 := (nI_eq (a := na1) (b := 0) (by omega) (by omega)).mp (show (nI na1 = nI 0) from c37)
      refine lv_iconst (v := 1) hx hb dX7_isHere_43 (by decide) ?_
      refine lv_goto (tgt := 48) hx hb dX7_isHere_44 (by decide) ?_
      exact b48_3 ls _ _  (lv_sub hl [] rfl) hP hS (by omega) (by omega)
  refine lv_aload_n hx hb dX7_isHere_0 rfl (lv_at hl 0 rfl) ?_
  refine lv_iload_n hx hb dX7_isHere_1 rfl (lv_at hl 1 rfl) ?_
  refine lv_iload_n hx hb dX7_isHere_2 rfl (lv_at hl 2 rfl) ?_
  refine call_i (cVt (k := 1076) (av := [.int (nI na1), .int a2]) (rest := []) B hP hS (d_X7_isIn l E ρ r Bt hBt M L X na1 (by omega) (by omega) a2 hI) lk_RX7_86 (hrecv (ci := 7) B hP (hk_lt (c := 7) (show hk 1076 = 7 by decide +kernel) (by decide)) (hcc7 _ _ (show hk 1076 = 7 by decide +kernel)) rfl) rfl rfl hl.1 (Nat.le_of_ble_eq_true rfl) ⟨Nat.le_of_ble_eq_true rfl, Nat.le_of_ble_eq_true rfl⟩ ⟨Nat.le_of_ble_eq_true rfl, Nat.le_of_ble_eq_true rfl⟩ dX7_isHere_3) hS (fun r40 ρ41 H locs q42 hP hS => ?_)
  obtain ⟨rfl, hI, q42⟩ := q42
  obtain ⟨j43, lj43, uj43, ej43⟩ := iR_nat (a := 0) (b := 1) q42
  refine lv_topi (fun z44 ez44 => ?_)
  obtain rfl : z44 = nI j43 := ez44.trans ej43
  refine lv_if_eq (tgt := 55) hx hb dX7_isHere_6 (by decide) (fun c45 => ?_) (fun c45 => ?_)
  · skip
    have n46 := (nI_eq (a := j43) (b := 0) (by omega) (by omega)).mp (show (nI j43 = nI 0) from c45)
    refine lv_iconst (v := 0) hx hb dX7_isHere_55 (by decide) ?_
    exact ret_z B hr hlk hP hS dX7_isHere_56 (Or.inl rfl) (⟨rfl, hI, (iR_w (a := 0) (b := 0) (show iR 0 (0) (0) from ⟨by decide, by decide⟩) (by decide) (by decide))⟩)
  · skip
    have n47 := mt (nI_eq (a := j43) (b := 0) (by omega) (by omega)).mpr (show ¬ (nI j43 = nI 0) from c45)
    refine lv_aload_n hx hb dX7_isHere_9 rfl (lv_at hl 0 rfl) ?_
    refine lv_iconst (v := 1) hx hb dX7_isHere_10 (by decide) ?_
    refine lv_iload_n hx hb dX7_isHere_11 rfl (lv_at hl 1 rfl) ?_
    refine lv_isub hx hb dX7_isHere_12 ?_
    obtain ⟨j48, hj48⟩ : ∃ q, 1 = q + na1 := ⟨1 - na1, by omega⟩
    refine lv_topi (fun z49 ez49 => ?_)
    obtain rfl : z49 = (nI j48) := ez49.trans (nI_subE (a := 1) (b := na1) hj48)
    refine lv_iload_n hx hb dX7_isHere_13 rfl (lv_at hl 2 rfl) ?_
    refine call_i (cVt (k := 1076) (av := [.int (nI j48), .int a2]) (rest := []) B hP hS (d_X7_isIn l E ρ r Bt hBt M L X j48 (by omega) (by omega) a2 hI) lk_RX7_86 (hrecv (ci := 7) B hP (hk_lt (c := 7) (show hk 1076 = 7 by decide +kernel) (by decide)) (hcc7 _ _ (show hk 1076 = 7 by decide +kernel)) rfl) rfl rfl hl.1 (Nat.le_of_ble_eq_true rfl) ⟨Nat.le_of_ble_eq_true rfl, Nat.le_of_ble_eq_true rfl⟩ ⟨Nat.le_of_ble_eq_true rfl, Nat.le_of_ble_eq_true rfl⟩ dX7_isHere_14) hS (fun r50 ρ51 H locs q52 hP hS => ?_)
    obtain ⟨rfl, hI, q52⟩ := q52
    obtain ⟨j53, lj53, uj53, ej53⟩ := iR_nat (a := 0) (b := 1) q52
    refine lv_topi (fun z54 ez54 => ?_)
    obtain rfl : z54 = nI j53 := ez54.trans ej53
    refine lv_if_eq (tgt := 51) hx hb dX7_isHere_17 (by decide) (fun c55 => ?_) (fun c55 => ?_)
    · skip
      have n56 := (nI_eq (a := j53) (b := 0) (by omega) (by omega)).mp (show (nI j53 = nI 0) from c55)
      refine lv_iconst (v := 1) hx hb dX7_isHere_51 (by decide) ?_
      refine lv_goto (tgt := 56) hx hb dX7_isHere_52 (by decide) ?_
      exact ret_z B hr hlk hP hS dX7_isHere_56 (Or.inr rfl) (⟨rfl, hI, (iR_w (a := 1) (b := 1) (show iR 1 (1) (1) from ⟨by decide, by decide⟩) (by decide) (by decide))⟩)
    · skip
      have n57 := mt (nI_eq (a := j53) (b := 0) (by omega) (by omega)).mpr (show ¬ (nI j53 = nI 0) from c55)
      refine lv_iload_n hx hb dX7_isHere_20 rfl (lv_at hl 3 rfl) ?_
      refine lv_bipush (v := 32) hx hb dX7_isHere_21 (by decide) ?_
      refine lv_irem hx hb dX7_isHere_23 (by decide) ?_
      refine lv_aload_n hx hb dX7_isHere_24 rfl (lv_at hl 0 rfl) ?_
      refine get7 B hP (show hk 1076 = 7 by decide +kernel) 3 (by decide) mw_1030 rfl dX7_isHere_25 ?_
      refine lv_bipush (v := 9) hx hb dX7_isHere_28 (by decide) ?_
      refine aldn (n := 695) (j := 9) B hP (show hk 1078 = 8 by decide +kernel) (show hlen 1078 = 695 by decide +kernel) rfl (by omega) (by decide) dX7_isHere_30 ?_
      refine lv_icmp_ge (tgt := 38) hx hb dX7_isHere_31 (by decide) (fun c58 => ?_) (fun c58 => ?_)
      · skip
        refine lv_iconst (v := 0) hx hb dX7_isHere_38 (by decide) ?_
        exact b39_0 ls _ _  (lv_sub hl [1] rfl) hP hS (by omega) (by omega)
      · skip
        refine lv_iconst (v := 1) hx hb dX7_isHere_34 (by decide) ?_
        refine lv_goto (tgt := 39) hx hb dX7_isHere_35 (by decide) ?_
        exact b39_1 ls _ _  (lv_sub hl [1] rfl) hP hS (by omega) (by omega)

theorem lk_RX7_93 : LkS RX7 93 yX7_bits cX7_bits 3 (some .int) 1 := ⟨⟨mw_1149, mw_1150, mw_59, mw_1151⟩, by decide +kernel⟩
set_option maxHeartbeats 4000000 in
set_option maxRecDepth 100000 in
theorem d_X7_byMap (l : Launch) (E : hE) (ρ r : Nat → Nat → Int32) (Bt : Nat) (hBt : Bt ≤ 1000000) (M : Nat → Int32) (L : Nat → Nat) (X : Nat × Nat → Prop) (na1 : Nat) (lna1 : 1 ≤ na1) (una1 : na1 ≤ 8388607) (na2 : Nat) (lna2 : 0 ≤ na2) (una2 : na2 ≤ 22) (hI : RI r Bt M L X ρ) : Met l yX7_byMap (.code yX7_byMap cX7_byMap 4 (some .int) :: gw_all) (rmk 1 40) (cPre E ρ [.int (nI na1), .int (nI na2)]) (cI E (fun v ρ1 => ρ = ρ1 ∧ RI r Bt M L X ρ1 ∧ iR v (0) (22))) 0 0 (hA E) := by
  refine ent (own := RX7) (by decide) rfl (Nat.le_of_ble_eq_true rfl) ?_
  intro p e s m below meth c ls B hr hlk hl hP hS
  have hx := B.1.1
  have hb := B.1.2.1
  have hown := B.1.2.2.2.1
  have hts := B.1.2.2.2.2
  have hl : lv_has ls 4 [(0, .int (nI na1)), (1, .int (nI na2))] := hl
  have b20_0 : ∀ (ls : Array Slot) (H : Heap) (locs : List Loc) (d20 : Nat) (j20_2 : Nat) (j20_3 : Nat), lv_has ls 4 [(0, .int (nI na1)), (2, .int (nI j20_2)), (3, .int (nI j20_3))] → WP E ρ H → va_S (hA E) s.heap H locs → 23 - j20_3 < d20 → 0 ≤ j20_2 → j20_2 ≤ 23 → 0 ≤ j20_3 → j20_3 ≤ 22 → 1 ≤ na1 → na1 ≤ 8388607 → 0 ≤ na2 → na2 ≤ 22 → j20_2 < pcc (na1 / 2 ^ j20_3) → W p l e (rmk 1 40) s m ([.int (nI na1), .int (nI na2)] : List Value).toArray below meth c H locs 0 0 (MQ below (cI E (fun v ρ1 => ρ = ρ1 ∧ RI r Bt M L X ρ1 ∧ iR v (0) (22))) ([.int (nI na1), .int (nI na2)] : List Value).toArray s 0 0 (hA E)) (F0 m 20 ls []) := by
    intro ls H locs d20
    induction d20 generalizing ls H locs with
    | zero => intro j20_2 j20_3 hl hP hS hd20 lj20_2 uj20_2 lj20_3 uj20_3 tlna1 tuna1 tlna2 tuna2 hxh; exact absurd hd20 (Nat.not_lt_zero _)
    | succ d20 ih20 =>
      intro j20_2 j20_3 hl hP hS hd20 lj20_2 uj20_2 lj20_3 uj20_3 tlna1 tuna1 tlna2 tuna2 hxh
      refine lv_iload_n hx hb dX7_byMap_20 rfl (lv_at hl 0 rfl) ?_
      refine lv_iload_n hx hb dX7_byMap_21 rfl (lv_at hl 2 rfl) ?_
      refine lv_ishr hx hb dX7_byMap_22 ?_
      have : (na1 / 2 ^ j20_3) ≤ na1 := Nat.div_le_self _ _
      refine lv_topi (fun z204 ez204 => ?_)
      obtain rfl : z204 = (nI (na1 / 2 ^ j20_3)) := ez204.trans (shr_nI (x := na1) (c := j20_3) (by omega) (by omega))
      refine lv_iconst (v := 1) hx hb dX7_byMap_23 (by decide) ?_
      refine lv_iand hx hb dX7_byMap_24 ?_
      have : ((na1 / 2 ^ j20_3) % 2) < 2 := Nat.mod_lt _ (by decide)
      refine lv_topi (fun z205 ez205 => ?_)
      obtain rfl : z205 = (nI ((na1 / 2 ^ j20_3) % 2)) := ez205.trans (and1_nI (na1 / 2 ^ j20_3))
      refine lv_if_eq (tgt := 32) hx hb dX7_byMap_25 (by decide) (fun c206 => ?_) (fun c206 => ?_)
      · skip
        have n207 := (nI_eq (a := ((na1 / 2 ^ j20_3) % 2)) (b := 0) (by omega) (by omega)).mp (show (nI ((na1 / 2 ^ j20_3) % 2) = nI 0) from c206)
        refine lv_iload_n hx hb dX7_byMap_32 rfl (lv_at hl 1 rfl) ?_
        refine lv_iload_n hx hb dX7_byMap_33 rfl (lv_at hl 0 rfl) ?_
        refine lv_iload_n hx hb dX7_byMap_34 rfl (lv_at hl 2 rfl) ?_
        refine lv_ishr hx hb dX7_byMap_35 ?_
        have : (na1 / 2 ^ j20_3) ≤ na1 := Nat.div_le_self _ _
        refine lv_topi (fun z208 ez208 => ?_)
        obtain rfl : z208 = (nI (na1 / 2 ^ j20_3)) := ez208.trans (shr_nI (x := na1) (c := j20_3) (by omega) (by omega))
        refine lv_iconst (v := 1) hx hb dX7_byMap_36 (by decide) ?_
        refine lv_iand hx hb dX7_byMap_37 ?_
        have : ((na1 / 2 ^ j20_3) % 2) < 2 := Nat.mod_lt _ (by decide)
        refine lv_topi (fun z209 ez209 => ?_)
        obtain rfl : z209 = (nI ((na1 / 2 ^ j20_3) % 2)) := ez209.trans (and1_nI (na1 / 2 ^ j20_3))
        refine lv_isub hx hb dX7_byMap_38 ?_
        obtain ⟨j210, hj210⟩ : ∃ q, j20_2 = q + ((na1 / 2 ^ j20_3) % 2) := ⟨j20_2 - ((na1 / 2 ^ j20_3) % 2), by omega⟩
        refine lv_topi (fun z211 ez211 => ?_)
        obtain rfl : z211 = (nI j210) := ez211.trans (nI_subE (a := j20_2) (b := ((na1 / 2 ^ j20_3) % 2)) hj210)
        refine lv_istore_n (lv' := [(2, .int (nI j210)), (0, .int (nI na1)), (3, .int (nI j20_3))]) hx hb dX7_byMap_39 rfl hl (by decide) rfl (fun ls hl => ?_)
        refine lv_iinc (v := (nI (1 + j20_3))) (lv' := [(3, .int (nI (1 + j20_3))), (2, .int (nI j210)), (0, .int (nI na1))]) hx hb dX7_byMap_40 hl (k := 2) rfl (show nI j20_3 + nI 1 = _ from (nI_add _ _).trans (congrArg nI (by omega))) (by decide) rfl (fun ls hl => ?_)
        refine lv_goto (tgt := 20) hx hb dX7_byMap_43 (by decide) ?_
        have hb2 := bmS (x := na1) (c := j20_3) (by omega)
        rw [show j20_3 + 1 = 1 + j20_3 by omega] at hb2
        have hbm : j210 < pcc (na1 / 2 ^ (1 + j20_3)) := by omega
        have := bmC (x := na1) (by omega) hbm
        exact ih20 ls _ _ j210 (1 + j20_3) (lv_sub hl [2, 1, 0] rfl) hP hS (by omega) (by omega) (by omega) (by omega) (by omega) (by omega) (by omega) (by omega) (by omega) hbm
      · skip
        have n212 := mt (nI_eq (a := ((na1 / 2 ^ j20_3) % 2)) (b := 0) (by omega) (by omega)).mpr (show ¬ (nI ((na1 / 2 ^ j20_3) % 2) = nI 0) from c206)
        refine lv_iload_n hx hb dX7_byMap_28 rfl (lv_at hl 1 rfl) ?_
        refine lv_if_le (tgt := 46) hx hb dX7_byMap_29 (by decide) (fun c213 => ?_) (fun c213 => ?_)
        · skip
          have n214 := mt (nx_lt (a := 0) (b := j20_2) (by omega) (by omega)).mpr (show ¬ (nI 0 < nI j20_2) from (Int32.not_lt.mpr c213))
          refine lv_iload_n hx hb dX7_byMap_46 rfl (lv_at hl 2 rfl) ?_
          exact ret_i B hr hlk hP hS dX7_byMap_47 (⟨rfl, hI, (iR_w (a := 0) (b := 22) (nI_iR (j := j20_3) (a := 0) (b := 22) (by omega) (by omega) (by omega)) (by decide) (by decide))⟩)
        · skip
          have n215 := (nx_lt (a := 0) (b := j20_2) (by omega) (by omega)).mp (show (nI 0 < nI j20_2) from (Int32.not_le.mp c213))
          refine lv_iload_n hx hb dX7_byMap_32 rfl (lv_at hl 1 rfl) ?_
          refine lv_iload_n hx hb dX7_byMap_33 rfl (lv_at hl 0 rfl) ?_
          refine lv_iload_n hx hb dX7_byMap_34 rfl (lv_at hl 2 rfl) ?_
          refine lv_ishr hx hb dX7_byMap_35 ?_
          have : (na1 / 2 ^ j20_3) ≤ na1 := Nat.div_le_self _ _
          refine lv_topi (fun z216 ez216 => ?_)
          obtain rfl : z216 = (nI (na1 / 2 ^ j20_3)) := ez216.trans (shr_nI (x := na1) (c := j20_3) (by omega) (by omega))
          refine lv_iconst (v := 1) hx hb dX7_byMap_36 (by decide) ?_
          refine lv_iand hx hb dX7_byMap_37 ?_
          have : ((na1 / 2 ^ j20_3) % 2) < 2 := Nat.mod_lt _ (by decide)
          refine lv_topi (fun z217 ez217 => ?_)
          obtain rfl : z217 = (nI ((na1 / 2 ^ j20_3) % 2)) := ez217.trans (and1_nI (na1 / 2 ^ j20_3))
          refine lv_isub hx hb dX7_byMap_38 ?_
          obtain ⟨j218, hj218⟩ : ∃ q, j20_2 = q + ((na1 / 2 ^ j20_3) % 2) := ⟨j20_2 - ((na1 / 2 ^ j20_3) % 2), by omega⟩
          refine lv_topi (fun z219 ez219 => ?_)
          obtain rfl : z219 = (nI j218) := ez219.trans (nI_subE (a := j20_2) (b := ((na1 / 2 ^ j20_3) % 2)) hj218)
          refine lv_istore_n (lv' := [(2, .int (nI j218)), (0, .int (nI na1)), (3, .int (nI j20_3))]) hx hb dX7_byMap_39 rfl hl (by decide) rfl (fun ls hl => ?_)
          refine lv_iinc (v := (nI (1 + j20_3))) (lv' := [(3, .int (nI (1 + j20_3))), (2, .int (nI j218)), (0, .int (nI na1))]) hx hb dX7_byMap_40 hl (k := 2) rfl (show nI j20_3 + nI 1 = _ from (nI_add _ _).trans (congrArg nI (by omega))) (by decide) rfl (fun ls hl => ?_)
          refine lv_goto (tgt := 20) hx hb dX7_byMap_43 (by decide) ?_
          have hb2 := bmS (x := na1) (c := j20_3) (by omega)
          rw [show j20_3 + 1 = 1 + j20_3 by omega] at hb2
          have hbm : j218 < pcc (na1 / 2 ^ (1 + j20_3)) := by omega
          have := bmC (x := na1) (by omega) hbm
          exact ih20 ls _ _ j218 (1 + j20_3) (lv_sub hl [2, 1, 0] rfl) hP hS (by omega) (by omega) (by omega) (by omega) (by omega) (by omega) (by omega) (by omega) (by omega) hbm
  refine lv_iload_n hx hb dX7_byMap_0 rfl (lv_at hl 0 rfl) ?_
  refine lv_iload_n hx hb dX7_byMap_1 rfl (lv_at hl 1 rfl) ?_
  refine lv_ishr hx hb dX7_byMap_2 ?_
  have : (na1 / 2 ^ na2) ≤ na1 := Nat.div_le_self _ _
  refine lv_topi (fun z220 ez220 => ?_)
  obtain rfl : z220 = (nI (na1 / 2 ^ na2)) := ez220.trans (shr_nI (x := na1) (c := na2) (by omega) (by omega))
  refine lv_iconst (v := 1) hx hb dX7_byMap_3 (by decide) ?_
  refine lv_iand hx hb dX7_byMap_4 ?_
  have : ((na1 / 2 ^ na2) % 2) < 2 := Nat.mod_lt _ (by decide)
  refine lv_topi (fun z221 ez221 => ?_)
  obtain rfl : z221 = (nI ((na1 / 2 ^ na2) % 2)) := ez221.trans (and1_nI (na1 / 2 ^ na2))
  refine lv_iconst (v := 1) hx hb dX7_byMap_5 (by decide) ?_
  refine lv_icmp_ne (tgt := 11) hx hb dX7_byMap_6 (by decide) (fun c222 => ?_) (fun c222 => ?_)
  · skip
    have n223 := mt (nI_eq (a := ((na1 / 2 ^ na2) % 2)) (b := 1) (by omega) (by omega)).mpr (show ¬ (nI ((na1 / 2 ^ na2) % 2) = nI 1) from c222)
    refine lv_iload_n hx hb dX7_byMap_11 rfl (lv_at hl 1 rfl) ?_
    refine lv_iload_n hx hb dX7_byMap_12 rfl (lv_at hl 0 rfl) ?_
    refine call_i (cS (av := [.int (nI na1)]) (rest := [.int (nI na2)]) B hP hS (c_bits l E ρ na1 (by omega)) lk_RX7_93 rfl rfl hl.1 (Nat.le_of_ble_eq_true rfl) ⟨Nat.le_of_ble_eq_true rfl, Nat.le_of_ble_eq_true rfl⟩ ⟨Nat.le_of_ble_eq_true rfl, Nat.le_of_ble_eq_true rfl⟩ dX7_byMap_13) hS (fun r224 ρ225 H locs q226 hP hS => ?_)
    obtain ⟨rfl, rfl⟩ := q226
    have := pcc_le na1
    have := pcc_pos (x := na1) (by omega) (by omega)
    refine lv_irem hx hb dX7_byMap_16 (iR_ne (nI_iR (j := (pcc na1)) (a := 1) (b := 24) (by omega) (by omega) (by omega)) (show iR 0 0 0 from ⟨by decide, by decide⟩) (by decide)) ?_
    obtain ⟨j227, m228, ej227⟩ := nI_rem (a := na2) (b := (pcc na1)) (by omega) (by omega) (by omega)
    refine lv_topi (fun z229 ez229 => ?_)
    obtain rfl : z229 = (nI j227) := ez229.trans ej227
    refine lv_istore_n (lv' := [(2, .int (nI j227)), (0, .int (nI na1)), (1, .int (nI na2))]) hx hb dX7_byMap_17 rfl hl (by decide) rfl (fun ls hl => ?_)
    refine lv_iconst (v := 0) hx hb dX7_byMap_18 (by decide) ?_
    refine lv_istore_n (lv' := [(3, .int 0), (2, .int (nI j227)), (0, .int (nI na1)), (1, .int (nI na2))]) hx hb dX7_byMap_19 rfl hl (by decide) rfl (fun ls hl => ?_)
    have hbm : j227 < pcc (na1 / 2 ^ 0) := by rw [Nat.pow_zero, Nat.div_one]; omega
    exact b20_0 ls _ _ _ j227 0 (lv_sub hl [2, 1, 0] rfl) hP hS (Nat.lt_succ_self _) (by omega) (by omega) (by omega) (by omega) (by omega) (by omega) (by omega) (by omega) hbm
  · skip
    have n230 := (nI_eq (a := ((na1 / 2 ^ na2) % 2)) (b := 1) (by omega) (by omega)).mp (show (nI ((na1 / 2 ^ na2) % 2) = nI 1) from c222)
    refine lv_iload_n hx hb dX7_byMap_9 rfl (lv_at hl 1 rfl) ?_
    exact ret_i B hr hlk hP hS dX7_byMap_10 (⟨rfl, hI, (iR_w (a := 0) (b := 22) (nI_iR (j := na2) (a := 0) (b := 22) (by omega) (by omega) (by omega)) (by decide) (by decide))⟩)

theorem lk_RX7_96 : LkS RX7 96 yX7_kernelOf cX7_kernelOf 8 (some .int) 2 := ⟨⟨mw_1114, mw_1115, mw_59, mw_1116⟩, by decide +kernel⟩
theorem lk_RX7_99 : LkS RX7 99 yX7_byMap cX7_byMap 4 (some .int) 2 := ⟨⟨mw_1146, mw_1147, mw_59, mw_1148⟩, by decide +kernel⟩
set_option maxHeartbeats 4000000 in
set_option maxRecDepth 100000 in
theorem d_X7_hopOf (l : Launch) (E : hE) (ρ r : Nat → Nat → Int32) (Bt : Nat) (hBt : Bt ≤ 1000000) (M : Nat → Int32) (L : Nat → Nat) (X : Nat × Nat → Prop) (na1 : Nat) (lna1 : 0 ≤ na1) (una1 : na1 ≤ 1) (a2 : Int32) (na3 : Nat) (lna3 : 1 ≤ na3) (una3 : na3 ≤ 8388607) (hI : RI r Bt M L X ρ) : Met l yX7_hopOf (.code yX7_hopOf cX7_hopOf 5 (some .int) :: gw_all) (rmk 2 80) (cPre E ρ [.ref (E.2.1 + 1076), .int (nI na1), .int a2, .int (nI na3)]) (cI E (fun v ρ1 => ρ = ρ1 ∧ RI r Bt M L X ρ1 ∧ iR v (0) (22))) 0 0 (hA E) := by
  refine ent (own := RX7) (by decide) rfl (Nat.le_of_ble_eq_true rfl) ?_
  intro p e s m below meth c ls B hr hlk hl hP hS
  have hx := B.1.1
  have hb := B.1.2.1
  have hown := B.1.2.2.2.1
  have hts := B.1.2.2.2.2
  have hl : lv_has ls 5 [(0, .ref (E.2.1 + 1076)), (1, .int (nI na1)), (2, .int a2), (3, .int (nI na3))] := hl
  refine lv_iload_n hx hb dX7_hopOf_0 rfl (lv_at hl 1 rfl) ?_
  refine call_i (cS (av := [.int (nI na1)]) (rest := []) B hP hS (d_X7_netAt l E ρ r Bt hBt M L X na1 (by omega) (by omega) hI) lk_RX7_75 rfl rfl hl.1 (Nat.le_of_ble_eq_true rfl) ⟨Nat.le_of_ble_eq_true rfl, Nat.le_of_ble_eq_true rfl⟩ ⟨Nat.le_of_ble_eq_true rfl, Nat.le_of_ble_eq_true rfl⟩ dX7_hopOf_1) hS (fun r18 ρ19 H locs q20 hP hS => ?_)
  obtain ⟨rfl, hI, q20⟩ := q20
  obtain rfl : r18 = nI (42 + 326 * na1) := q20.trans (congrArg nI (by omega))
  refine lv_istore (lv' := [(4, .int (nI (42 + 326 * na1))), (0, .ref (E.2.1 + 1076)), (1, .int (nI na1)), (2, .int a2), (3, .int (nI na3))]) hx hb dX7_hopOf_4 hl (by decide) rfl (fun ls hl => ?_)
  refine lv_iload_n hx hb dX7_hopOf_6 rfl (lv_at hl 4 rfl) ?_
  refine lv_aload_n hx hb dX7_hopOf_7 rfl (lv_at hl 1 rfl) ?_
  refine get7 B hP (show hk 1076 = 7 by decide +kernel) 3 (by decide) mw_1030 rfl dX7_hopOf_8 ?_
  refine lv_iconst (v := 1) hx hb dX7_hopOf_11 (by decide) ?_
  refine lv_aload_n hx hb dX7_hopOf_12 rfl (lv_at hl 1 rfl) ?_
  refine get7 B hP (show hk 1076 = 7 by decide +kernel) 3 (by decide) mw_1030 rfl dX7_hopOf_13 ?_
  refine lv_iload hx hb dX7_hopOf_16 (lv_at hl 0 rfl) ?_
  refine aldf (n := 695) (j := (42 + 326 * na1)) (v := (M na1)) B hP (show hk 1078 = 8 by decide +kernel) (show hlen 1078 = 695 by decide +kernel) rfl (by omega) (by decide) (g_m (n0 := na1) hI (by omega) (by omega)) dX7_hopOf_18 ?_
  have i21 : iR (M na1) (-1) 5 := RI_Mb hI (by omega)
  refine lv_iadd hx hb dX7_hopOf_19 ?_
  obtain ⟨j22, lj22, uj22, ej22⟩ := iR_nat (a := 0) (b := 6) (iR_add (a' := 0) (b' := 6) (show iR 1 (1) (1) from ⟨by decide, by decide⟩) i21 (by decide) (by decide) (by decide) (by decide))
  refine lv_topi (fun z23 ez23 => ?_)
  obtain rfl : z23 = nI j22 := ez23.trans ej22
  refine aldn (n := 695) (j := j22) B hP (show hk 1078 = 8 by decide +kernel) (show hlen 1078 = 695 by decide +kernel) rfl (by omega) (by decide) dX7_hopOf_20 ?_
  refine lv_iload_n hx hb dX7_hopOf_21 rfl (lv_at hl 3 rfl) ?_
  refine lv_aload_n hx hb dX7_hopOf_22 rfl (lv_at hl 1 rfl) ?_
  refine get7 B hP (show hk 1076 = 7 by decide +kernel) 3 (by decide) mw_1030 rfl dX7_hopOf_23 ?_
  refine lv_iload hx hb dX7_hopOf_26 (lv_at hl 0 rfl) ?_
  refine lv_iconst (v := 1) hx hb dX7_hopOf_28 (by decide) ?_
  refine lv_iadd hx hb dX7_hopOf_29 ?_
  refine lv_topi (fun z24 ez24 => ?_)
  obtain rfl : z24 = (nI (43 + 326 * na1)) := ez24.trans (by rw [show (nI (42 + 326 * na1)) = nI (42 + 326 * na1) from rfl, show 1 = nI 1 from rfl, nI_add] <;> exact congrArg nI (by omega))
  refine aldn (n := 695) (j := (43 + 326 * na1)) B hP (show hk 1078 = 8 by decide +kernel) (show hlen 1078 = 695 by decide +kernel) rfl (by omega) (by decide) dX7_hopOf_30 ?_
  refine lv_iadd hx hb dX7_hopOf_31 ?_
  refine call_i (cS (av := [.int (ρ 1078 j22), .int (a2 + (ρ 1078 (43 + 326 * na1)))]) (rest := [.int (nI na3)]) B hP hS (c_kernelOf l E ρ (ρ 1078 j22) (a2 + (ρ 1078 (43 + 326 * na1)))) lk_RX7_96 rfl rfl hl.1 (Nat.le_of_ble_eq_true rfl) ⟨Nat.le_of_ble_eq_true rfl, Nat.le_of_ble_eq_true rfl⟩ ⟨Nat.le_of_ble_eq_true rfl, Nat.le_of_ble_eq_true rfl⟩ dX7_hopOf_32) hS (fun r25 ρ26 H locs q27 hP hS => ?_)
  obtain ⟨rfl, rfl⟩ := q27
  obtain ⟨j28, lj28, uj28, ej28⟩ := iR_nat (a := 0) (b := 22) (KER_rng (ρ 1078 j22) (a2 + (ρ 1078 (43 + 326 * na1))))
  refine lv_topi (fun z29 ez29 => ?_)
  obtain rfl : z29 = nI j28 := ez29.trans ej28
  refine call_i (cS (av := [.int (nI na3), .int (nI j28)]) (rest := []) B hP hS (d_X7_byMap l E ρ r Bt hBt M L X na3 (by omega) (by omega) j28 (by omega) (by omega) hI) lk_RX7_99 rfl rfl hl.1 (Nat.le_of_ble_eq_true rfl) ⟨Nat.le_of_ble_eq_true rfl, Nat.le_of_ble_eq_true rfl⟩ ⟨Nat.le_of_ble_eq_true rfl, Nat.le_of_ble_eq_true rfl⟩ dX7_hopOf_35) hS (fun r30 ρ31 H locs q32 hP hS => ?_)
  obtain ⟨rfl, hI, q32⟩ := q32
  obtain ⟨j33, lj33, uj33, ej33⟩ := iR_nat (a := 0) (b := 22) q32
  refine lv_topi (fun z34 ez34 => ?_)
  obtain rfl : z34 = nI j33 := ez34.trans ej33
  exact ret_i B hr hlk hP hS dX7_hopOf_38 (⟨rfl, hI, (iR_w (a := 0) (b := 22) (nI_iR (j := j33) (a := 0) (b := 22) (by omega) (by omega) (by omega)) (by decide) (by decide))⟩)

set_option maxHeartbeats 4000000 in
set_option maxRecDepth 100000 in
theorem d_X7_isShare (l : Launch) (E : hE) (ρ r : Nat → Nat → Int32) (Bt : Nat) (hBt : Bt ≤ 1000000) (M : Nat → Int32) (L : Nat → Nat) (X : Nat × Nat → Prop) (a1 : Int32) (hI : RI r Bt M L X ρ) : Met l yX7_isShare (.code yX7_isShare cX7_isShare 1 (some .boolean) :: gw_all) (rmk 1 40) (cPre E ρ [.int a1]) (cI E (fun v ρ1 => ρ = ρ1 ∧ RI r Bt M L X ρ1 ∧ iR v (0) (1))) 0 0 (hA E) := by
  refine ent (own := RX7) (by decide) rfl (Nat.le_of_ble_eq_true rfl) ?_
  intro p e s m below meth c ls B hr hlk hl hP hS
  have hx := B.1.1
  have hb := B.1.2.1
  have hown := B.1.2.2.2.1
  have hts := B.1.2.2.2.2
  have hl : lv_has ls 1 [(0, .int a1)] := hl
  refine lv_iload_n hx hb dX7_isShare_0 rfl (lv_at hl 0 rfl) ?_
  refine lv_i2l hx hb dX7_isShare_1 rfl ?_
  refine lv_lconst (v := 0) hx hb dX7_isShare_2 (by decide) ?_
  refine lv_ldc2 (v := 32) hx hb hown (hts _ mw_1197) dX7_isShare_3 ?_
  refine call_i (cS (av := [.long a1.toInt64, .long 0, .long 32]) (rest := []) B hP hS (c_in l E ρ a1.toInt64 0 32 0 32 (by decide) (by decide)) lk_RX7_71 rfl rfl hl.1 (Nat.le_of_ble_eq_true rfl) ⟨Nat.le_of_ble_eq_true rfl, Nat.le_of_ble_eq_true rfl⟩ ⟨Nat.le_of_ble_eq_true rfl, Nat.le_of_ble_eq_true rfl⟩ dX7_isShare_6) hS (fun r15 ρ16 H locs q17 hP hS => ?_)
  obtain ⟨rfl, q17⟩ := q17
  rcases q17 with ⟨rfl, q17⟩ | ⟨rfl, q17⟩
  · skip
    have i18 : iR a1 0 32 := (lR_i _ _ _).mp q17
    refine lv_if_eq (tgt := 22) hx hb dX7_isShare_9 (by decide) (fun c19 => absurd c19 (iR_ne (show iR 1 (1) (1) from ⟨by decide, by decide⟩) (show iR 0 (0) (0) from ⟨by decide, by decide⟩) (by decide))) (fun _ => ?_)
    refine lv_iload_n hx hb dX7_isShare_12 rfl (lv_at hl 0 rfl) ?_
    obtain ⟨j20, lj20, uj20, ej20⟩ := iR_nat (a := 0) (b := 32) i18
    refine lv_topi (fun z21 ez21 => ?_)
    obtain rfl : z21 = nI j20 := ez21.trans ej20
    refine lv_iconst (v := 2) hx hb dX7_isShare_13 (by decide) ?_
    refine lv_irem hx hb dX7_isShare_14 (by decide) ?_
    obtain ⟨j22, m23, ej22⟩ := nI_rem (a := j20) (b := 2) (by omega) (by omega) (by omega)
    refine lv_topi (fun z24 ez24 => ?_)
    obtain rfl : z24 = (nI j22) := ez24.trans ej22
    refine lv_if_ne (tgt := 22) hx hb dX7_isShare_15 (by decide) (fun c25 => ?_) (fun c25 => ?_)
    · skip
      have n26 := mt (nI_eq (a := j22) (b := 0) (by omega) (by omega)).mpr (show ¬ (nI j22 = nI 0) from c25)
      refine lv_iconst (v := 0) hx hb dX7_isShare_22 (by decide) ?_
      exact ret_z B hr hlk hP hS dX7_isShare_23 (Or.inl rfl) (⟨rfl, hI, (iR_w (a := 0) (b := 0) (show iR 0 (0) (0) from ⟨by decide, by decide⟩) (by decide) (by decide))⟩)
    · skip
      have n27 := (nI_eq (a := j22) (b := 0) (by omega) (by omega)).mp (show (nI j22 = nI 0) from c25)
      refine lv_iconst (v := 1) hx hb dX7_isShare_18 (by decide) ?_
      refine lv_goto (tgt := 23) hx hb dX7_isShare_19 (by decide) ?_
      exact ret_z B hr hlk hP hS dX7_isShare_23 (Or.inr rfl) (⟨rfl, hI, (iR_w (a := 1) (b := 1) (show iR 1 (1) (1) from ⟨by decide, by decide⟩) (by decide) (by decide))⟩)
  · skip
    refine lv_if_eq (tgt := 22) hx hb dX7_isShare_9 (by decide) (fun _ => ?_) (fun c28 => absurd rfl c28)
    refine lv_iconst (v := 0) hx hb dX7_isShare_22 (by decide) ?_
    exact ret_z B hr hlk hP hS dX7_isShare_23 (Or.inl rfl) (⟨rfl, hI, (iR_w (a := 0) (b := 0) (show iR 0 (0) (0) from ⟨by decide, by decide⟩) (by decide) (by decide))⟩)

set_option maxHeartbeats 4000000 in
set_option maxRecDepth 100000 in
theorem d_X7_isEven (l : Launch) (E : hE) (ρ r : Nat → Nat → Int32) (Bt : Nat) (hBt : Bt ≤ 1000000) (M : Nat → Int32) (L : Nat → Nat) (X : Nat × Nat → Prop) (a1 : Int32) (a2 : Int32) (a3 : Int32) (hI : RI r Bt M L X ρ) : Met l yX7_isEven (.code yX7_isEven cX7_isEven 3 (some .boolean) :: gw_all) (rmk 1 40) (cPre E ρ [.int a1, .int a2, .int a3]) (cI E (fun v ρ1 => ρ = ρ1 ∧ RI r Bt M L X ρ1 ∧ iR v (0) (1))) 0 0 (hA E) := by
  refine ent (own := RX7) (by decide) rfl (Nat.le_of_ble_eq_true rfl) ?_
  intro p e s m below meth c ls B hr hlk hl hP hS
  have hx := B.1.1
  have hb := B.1.2.1
  have hown := B.1.2.2.2.1
  have hts := B.1.2.2.2.2
  have hl : lv_has ls 3 [(0, .int a1), (1, .int a2), (2, .int a3)] := hl
  refine lv_iload_n hx hb dX7_isEven_0 rfl (lv_at hl 0 rfl) ?_
  refine lv_i2l hx hb dX7_isEven_1 rfl ?_
  refine lv_iload_n hx hb dX7_isEven_2 rfl (lv_at hl 1 rfl) ?_
  refine lv_i2l hx hb dX7_isEven_3 rfl ?_
  refine lv_iload_n hx hb dX7_isEven_4 rfl (lv_at hl 2 rfl) ?_
  refine lv_i2l hx hb dX7_isEven_5 rfl ?_
  refine call_i (cS (av := [.long a1.toInt64, .long a2.toInt64, .long a3.toInt64]) (rest := []) B hP hS (c_in l E ρ a1.toInt64 a2.toInt64 a3.toInt64 a2.toInt a3.toInt (Int32.toInt_toInt64 a2) (Int32.toInt_toInt64 a3)) lk_RX7_71 rfl rfl hl.1 (Nat.le_of_ble_eq_true rfl) ⟨Nat.le_of_ble_eq_true rfl, Nat.le_of_ble_eq_true rfl⟩ ⟨Nat.le_of_ble_eq_true rfl, Nat.le_of_ble_eq_true rfl⟩ dX7_isEven_6) hS (fun r8 ρ9 H locs q10 hP hS => ?_)
  obtain ⟨rfl, q10⟩ := q10
  rcases q10 with ⟨rfl, q10⟩ | ⟨rfl, q10⟩
  · skip
    refine lv_if_eq (tgt := 22) hx hb dX7_isEven_9 (by decide) (fun c11 => absurd c11 (iR_ne (show iR 1 (1) (1) from ⟨by decide, by decide⟩) (show iR 0 (0) (0) from ⟨by decide, by decide⟩) (by decide))) (fun _ => ?_)
    refine lv_iload_n hx hb dX7_isEven_12 rfl (lv_at hl 0 rfl) ?_
    refine lv_iconst (v := 2) hx hb dX7_isEven_13 (by decide) ?_
    refine lv_irem hx hb dX7_isEven_14 (by decide) ?_
    refine lv_if_ne (tgt := 22) hx hb dX7_isEven_15 (by decide) (fun c12 => ?_) (fun c12 => ?_)
    · skip
      refine lv_iconst (v := 0) hx hb dX7_isEven_22 (by decide) ?_
      exact ret_z B hr hlk hP hS dX7_isEven_23 (Or.inl rfl) (⟨rfl, hI, (iR_w (a := 0) (b := 0) (show iR 0 (0) (0) from ⟨by decide, by decide⟩) (by decide) (by decide))⟩)
    · skip
      have i13 : iR (a1 - a1 / 2 * 2) (0) (0) := (by rw [c12]; exact ⟨by decide, by decide⟩)
      refine lv_iconst (v := 1) hx hb dX7_isEven_18 (by decide) ?_
      refine lv_goto (tgt := 23) hx hb dX7_isEven_19 (by decide) ?_
      exact ret_z B hr hlk hP hS dX7_isEven_23 (Or.inr rfl) (⟨rfl, hI, (iR_w (a := 1) (b := 1) (show iR 1 (1) (1) from ⟨by decide, by decide⟩) (by decide) (by decide))⟩)
  · skip
    refine lv_if_eq (tgt := 22) hx hb dX7_isEven_9 (by decide) (fun _ => ?_) (fun c14 => absurd rfl c14)
    refine lv_iconst (v := 0) hx hb dX7_isEven_22 (by decide) ?_
    exact ret_z B hr hlk hP hS dX7_isEven_23 (Or.inl rfl) (⟨rfl, hI, (iR_w (a := 0) (b := 0) (show iR 0 (0) (0) from ⟨by decide, by decide⟩) (by decide) (by decide))⟩)

set_option maxHeartbeats 4000000 in
set_option maxRecDepth 100000 in
theorem d_X7_comes5 (l : Launch) (E : hE) (ρ r : Nat → Nat → Int32) (Bt : Nat) (hBt : Bt ≤ 1000000) (M : Nat → Int32) (L : Nat → Nat) (X : Nat × Nat → Prop) (gn : Nat) (ugn : gn ≤ 1) (gl : Nat) (ugl : gl ≤ 3) (a3 : Int32) (a4 : Int32) (hI : RI r Bt M L X ρ) (hs0 : iR (ρ 1078 (109 + 326 * gn + 66 * gl)) 0 7) : Met l yX7_comes (.code yX7_comes cX7_comes 5 none :: gw_all) (rmk 1 40) (cPre E ρ [.ref (E.2.1 + 1076), .int (nI (109 + 326 * gn + 66 * gl)), .int (nI (154 + 326 * gn + 66 * gl)), .int a3, .int a4]) (cV E (fun ρ1 => RI r Bt M L X ρ1)) 0 0 (hA E) := by
  refine ent (own := RX7) (by decide) rfl (Nat.le_of_ble_eq_true rfl) ?_
  intro p e s m below meth c ls B hr hlk hl hP hS
  have hx := B.1.1
  have hb := B.1.2.1
  have hown := B.1.2.2.2.1
  have hts := B.1.2.2.2.2
  have hl : lv_has ls 5 [(0, .ref (E.2.1 + 1076)), (1, .int (nI (109 + 326 * gn + 66 * gl))), (2, .int (nI (154 + 326 * gn + 66 * gl))), (3, .int a3), (4, .int a4)] := hl
  have hs : iR (ρ 1078 (109 + 326 * gn + 66 * gl)) 0 7 := by rw [show (109 + 326 * gn + 66 * gl) = 109 + 326 * gn + 66 * gl by omega]; exact hs0
  refine lv_aload_n hx hb dX7_comes_0 rfl (lv_at hl 0 rfl) ?_
  refine get7 B hP (show hk 1076 = 7 by decide +kernel) 3 (by decide) mw_1030 rfl dX7_comes_1 ?_
  refine lv_iload_n hx hb dX7_comes_4 rfl (lv_at hl 2 rfl) ?_
  refine lv_aload_n hx hb dX7_comes_5 rfl (lv_at hl 0 rfl) ?_
  refine get7 B hP (show hk 1076 = 7 by decide +kernel) 3 (by decide) mw_1030 rfl dX7_comes_6 ?_
  refine lv_iload_n hx hb dX7_comes_9 rfl (lv_at hl 1 rfl) ?_
  refine aldn (n := 695) (j := (109 + 326 * gn + 66 * gl)) B hP (show hk 1078 = 8 by decide +kernel) (show hlen 1078 = 695 by decide +kernel) rfl (by omega) (by decide) dX7_comes_10 ?_
  obtain ⟨j13, lj13, uj13, ej13⟩ := iR_nat (a := 0) (b := 7) hs
  refine lv_topi (fun z14 ez14 => ?_)
  obtain rfl : z14 = nI j13 := ez14.trans ej13
  refine lv_iadd hx hb dX7_comes_11 ?_
  refine lv_topi (fun z15 ez15 => ?_)
  obtain rfl : z15 = (nI (154 + 326 * gn + 66 * gl + j13)) := ez15.trans (by rw [show (nI (154 + 326 * gn + 66 * gl)) = nI (154 + 326 * gn + 66 * gl) from rfl, show (nI j13) = nI j13 from rfl, nI_add] <;> exact congrArg nI (by omega))
  refine lv_iload hx hb dX7_comes_12 (lv_at hl 4 rfl) ?_
  refine astn (n := 695) (j := (154 + 326 * gn + 66 * gl + j13)) B hP hS (show hk 1078 = 8 by decide +kernel) (show hlen 1078 = 695 by decide +kernel) rfl (by omega) (by decide) dX7_comes_14 (fun H locs hP hS => ?_)
  obtain ⟨ρ16, e17⟩ : ∃ z, z = up ρ 1078 (154 + 326 * gn + 66 * gl + j13) a4 := ⟨_, rfl⟩
  rw [← e17] at hP
  have hI : RI r Bt M L X ρ16 := by rw [e17]; exact RI_up hI (ok_link (n0 := gn) (l0 := gl) (j := (154 + 326 * gn + 66 * gl + j13)) (50 + j13) (by omega) (by omega) (by omega) (by omega))
  refine lv_aload_n hx hb dX7_comes_15 rfl (lv_at hl 0 rfl) ?_
  refine get7 B hP (show hk 1076 = 7 by decide +kernel) 3 (by decide) mw_1030 rfl dX7_comes_16 ?_
  refine lv_iload_n hx hb dX7_comes_19 rfl (lv_at hl 1 rfl) ?_
  refine lv_iconst (v := 1) hx hb dX7_comes_20 (by decide) ?_
  refine lv_iadd hx hb dX7_comes_21 ?_
  refine lv_topi (fun z18 ez18 => ?_)
  obtain rfl : z18 = (nI (110 + 326 * gn + 66 * gl)) := ez18.trans (by rw [show (nI (109 + 326 * gn + 66 * gl)) = nI (109 + 326 * gn + 66 * gl) from rfl, show 1 = nI 1 from rfl, nI_add] <;> exact congrArg nI (by omega))
  refine lv_aload_n hx hb dX7_comes_22 rfl (lv_at hl 0 rfl) ?_
  refine get7 B hP (show hk 1076 = 7 by decide +kernel) 3 (by decide) mw_1030 rfl dX7_comes_23 ?_
  refine lv_iload_n hx hb dX7_comes_26 rfl (lv_at hl 1 rfl) ?_
  refine aldf (n := 695) (j := (109 + 326 * gn + 66 * gl)) (v := (nI j13)) B hP (show hk 1078 = 8 by decide +kernel) (show hlen 1078 = 695 by decide +kernel) rfl (by omega) (by decide) (by rw [e17]; exact up_get_ne (Or.inr (by omega)) ej13) dX7_comes_27 ?_
  refine lv_iadd hx hb dX7_comes_28 ?_
  refine lv_topi (fun z19 ez19 => ?_)
  obtain rfl : z19 = (nI (110 + 326 * gn + 66 * gl + j13)) := ez19.trans (by rw [show (nI (110 + 326 * gn + 66 * gl)) = nI (110 + 326 * gn + 66 * gl) from rfl, show (nI j13) = nI j13 from rfl, nI_add] <;> exact congrArg nI (by omega))
  refine lv_iload_n hx hb dX7_comes_29 rfl (lv_at hl 3 rfl) ?_
  refine astn (n := 695) (j := (110 + 326 * gn + 66 * gl + j13)) B hP hS (show hk 1078 = 8 by decide +kernel) (show hlen 1078 = 695 by decide +kernel) rfl (by omega) (by decide) dX7_comes_30 (fun H locs hP hS => ?_)
  obtain ⟨ρ20, e21⟩ : ∃ z, z = up ρ16 1078 (110 + 326 * gn + 66 * gl + j13) a3 := ⟨_, rfl⟩
  rw [← e21] at hP
  have hI : RI r Bt M L X ρ20 := by rw [e21]; exact RI_up hI (ok_link (n0 := gn) (l0 := gl) (j := (110 + 326 * gn + 66 * gl + j13)) (6 + j13) (by omega) (by omega) (by omega) (by omega))
  refine lv_aload_n hx hb dX7_comes_31 rfl (lv_at hl 0 rfl) ?_
  refine get7 B hP (show hk 1076 = 7 by decide +kernel) 3 (by decide) mw_1030 rfl dX7_comes_32 ?_
  refine lv_iload_n hx hb dX7_comes_35 rfl (lv_at hl 1 rfl) ?_
  refine lv_dup2_11 hx hb dX7_comes_36 rfl rfl ?_
  refine aldf (n := 695) (j := (109 + 326 * gn + 66 * gl)) (v := (nI j13)) B hP (show hk 1078 = 8 by decide +kernel) (show hlen 1078 = 695 by decide +kernel) rfl (by omega) (by decide) (by rw [e21]; exact up_get_ne (Or.inr (by omega)) (by rw [e17]; exact up_get_ne (Or.inr (by omega)) ej13)) dX7_comes_37 ?_
  refine lv_iconst (v := 1) hx hb dX7_comes_38 (by decide) ?_
  refine lv_iadd hx hb dX7_comes_39 ?_
  refine lv_topi (fun z22 ez22 => ?_)
  obtain rfl : z22 = (nI (1 + j13)) := ez22.trans (by rw [show (nI j13) = nI j13 from rfl, show 1 = nI 1 from rfl, nI_add] <;> exact congrArg nI (by omega))
  refine astn (n := 695) (j := (109 + 326 * gn + 66 * gl)) B hP hS (show hk 1078 = 8 by decide +kernel) (show hlen 1078 = 695 by decide +kernel) rfl (by omega) (by decide) dX7_comes_40 (fun H locs hP hS => ?_)
  obtain ⟨ρ23, e24⟩ : ∃ z, z = up ρ20 1078 (109 + 326 * gn + 66 * gl) (nI (1 + j13)) := ⟨_, rfl⟩
  rw [← e24] at hP
  have hI : RI r Bt M L X ρ23 := by rw [e24]; exact RI_up hI (ok_ndown (n0 := gn) (l0 := gl) (j := (109 + 326 * gn + 66 * gl)) (by omega) (by omega) (iR_w (a := 1) (b := 8) (nI_iR (j := (1 + j13)) (a := 1) (b := 8) (by omega) (by omega) (by omega)) (by decide) (by decide)) (by omega))
  exact ret_v B hr hlk hP hS dX7_comes_41 (hI)

set_option maxHeartbeats 4000000 in
set_option maxRecDepth 100000 in
theorem d_X7_comes14 (l : Launch) (E : hE) (ρ r : Nat → Nat → Int32) (Bt : Nat) (hBt : Bt ≤ 1000000) (M : Nat → Int32) (L : Nat → Nat) (X : Nat × Nat → Prop) (gn : Nat) (ugn : gn ≤ 1) (gl : Nat) (ugl : gl ≤ 3) (a3 : Int32) (a4 : Int32) (hI : RI r Bt M L X ρ) (hs0 : iR (ρ 1078 (118 + 326 * gn + 66 * gl)) 0 7) : Met l yX7_comes (.code yX7_comes cX7_comes 5 none :: gw_all) (rmk 1 40) (cPre E ρ [.ref (E.2.1 + 1076), .int (nI (118 + 326 * gn + 66 * gl)), .int (nI (162 + 326 * gn + 66 * gl)), .int a3, .int a4]) (cV E (fun ρ1 => RI r Bt M L X ρ1)) 0 0 (hA E) := by
  refine ent (own := RX7) (by decide) rfl (Nat.le_of_ble_eq_true rfl) ?_
  intro p e s m below meth c ls B hr hlk hl hP hS
  have hx := B.1.1
  have hb := B.1.2.1
  have hown := B.1.2.2.2.1
  have hts := B.1.2.2.2.2
  have hl : lv_has ls 5 [(0, .ref (E.2.1 + 1076)), (1, .int (nI (118 + 326 * gn + 66 * gl))), (2, .int (nI (162 + 326 * gn + 66 * gl))), (3, .int a3), (4, .int a4)] := hl
  have hs : iR (ρ 1078 (118 + 326 * gn + 66 * gl)) 0 7 := by rw [show (118 + 326 * gn + 66 * gl) = 118 + 326 * gn + 66 * gl by omega]; exact hs0
  refine lv_aload_n hx hb dX7_comes_0 rfl (lv_at hl 0 rfl) ?_
  refine get7 B hP (show hk 1076 = 7 by decide +kernel) 3 (by decide) mw_1030 rfl dX7_comes_1 ?_
  refine lv_iload_n hx hb dX7_comes_4 rfl (lv_at hl 2 rfl) ?_
  refine lv_aload_n hx hb dX7_comes_5 rfl (lv_at hl 0 rfl) ?_
  refine get7 B hP (show hk 1076 = 7 by decide +kernel) 3 (by decide) mw_1030 rfl dX7_comes_6 ?_
  refine lv_iload_n hx hb dX7_comes_9 rfl (lv_at hl 1 rfl) ?_
  refine aldn (n := 695) (j := (118 + 326 * gn + 66 * gl)) B hP (show hk 1078 = 8 by decide +kernel) (show hlen 1078 = 695 by decide +kernel) rfl (by omega) (by decide) dX7_comes_10 ?_
  obtain ⟨j13, lj13, uj13, ej13⟩ := iR_nat (a := 0) (b := 7) hs
  refine lv_topi (fun z14 ez14 => ?_)
  obtain rfl : z14 = nI j13 := ez14.trans ej13
  refine lv_iadd hx hb dX7_comes_11 ?_
  refine lv_topi (fun z15 ez15 => ?_)
  obtain rfl : z15 = (nI (162 + 326 * gn + 66 * gl + j13)) := ez15.trans (by rw [show (nI (162 + 326 * gn + 66 * gl)) = nI (162 + 326 * gn + 66 * gl) from rfl, show (nI j13) = nI j13 from rfl, nI_add] <;> exact congrArg nI (by omega))
  refine lv_iload hx hb dX7_comes_12 (lv_at hl 4 rfl) ?_
  refine astn (n := 695) (j := (162 + 326 * gn + 66 * gl + j13)) B hP hS (show hk 1078 = 8 by decide +kernel) (show hlen 1078 = 695 by decide +kernel) rfl (by omega) (by decide) dX7_comes_14 (fun H locs hP hS => ?_)
  obtain ⟨ρ16, e17⟩ : ∃ z, z = up ρ 1078 (162 + 326 * gn + 66 * gl + j13) a4 := ⟨_, rfl⟩
  rw [← e17] at hP
  have hI : RI r Bt M L X ρ16 := by rw [e17]; exact RI_up hI (ok_link (n0 := gn) (l0 := gl) (j := (162 + 326 * gn + 66 * gl + j13)) (58 + j13) (by omega) (by omega) (by omega) (by omega))
  refine lv_aload_n hx hb dX7_comes_15 rfl (lv_at hl 0 rfl) ?_
  refine get7 B hP (show hk 1076 = 7 by decide +kernel) 3 (by decide) mw_1030 rfl dX7_comes_16 ?_
  refine lv_iload_n hx hb dX7_comes_19 rfl (lv_at hl 1 rfl) ?_
  refine lv_iconst (v := 1) hx hb dX7_comes_20 (by decide) ?_
  refine lv_iadd hx hb dX7_comes_21 ?_
  refine lv_topi (fun z18 ez18 => ?_)
  obtain rfl : z18 = (nI (119 + 326 * gn + 66 * gl)) := ez18.trans (by rw [show (nI (118 + 326 * gn + 66 * gl)) = nI (118 + 326 * gn + 66 * gl) from rfl, show 1 = nI 1 from rfl, nI_add] <;> exact congrArg nI (by omega))
  refine lv_aload_n hx hb dX7_comes_22 rfl (lv_at hl 0 rfl) ?_
  refine get7 B hP (show hk 1076 = 7 by decide +kernel) 3 (by decide) mw_1030 rfl dX7_comes_23 ?_
  refine lv_iload_n hx hb dX7_comes_26 rfl (lv_at hl 1 rfl) ?_
  refine aldf (n := 695) (j := (118 + 326 * gn + 66 * gl)) (v := (nI j13)) B hP (show hk 1078 = 8 by decide +kernel) (show hlen 1078 = 695 by decide +kernel) rfl (by omega) (by decide) (by rw [e17]; exact up_get_ne (Or.inr (by omega)) ej13) dX7_comes_27 ?_
  refine lv_iadd hx hb dX7_comes_28 ?_
  refine lv_topi (fun z19 ez19 => ?_)
  obtain rfl : z19 = (nI (119 + 326 * gn + 66 * gl + j13)) := ez19.trans (by rw [show (nI (119 + 326 * gn + 66 * gl)) = nI (119 + 326 * gn + 66 * gl) from rfl, show (nI j13) = nI j13 from rfl, nI_add] <;> exact congrArg nI (by omega))
  refine lv_iload_n hx hb dX7_comes_29 rfl (lv_at hl 3 rfl) ?_
  refine astn (n := 695) (j := (119 + 326 * gn + 66 * gl + j13)) B hP hS (show hk 1078 = 8 by decide +kernel) (show hlen 1078 = 695 by decide +kernel) rfl (by omega) (by decide) dX7_comes_30 (fun H locs hP hS => ?_)
  obtain ⟨ρ20, e21⟩ : ∃ z, z = up ρ16 1078 (119 + 326 * gn + 66 * gl + j13) a3 := ⟨_, rfl⟩
  rw [← e21] at hP
  have hI : RI r Bt M L X ρ20 := by rw [e21]; exact RI_up hI (ok_link (n0 := gn) (l0 := gl) (j := (119 + 326 * gn + 66 * gl + j13)) (15 + j13) (by omega) (by omega) (by omega) (by omega))
  refine lv_aload_n hx hb dX7_comes_31 rfl (lv_at hl 0 rfl) ?_
  refine get7 B hP (show hk 1076 = 7 by decide +kernel) 3 (by decide) mw_1030 rfl dX7_comes_32 ?_
  refine lv_iload_n hx hb dX7_comes_35 rfl (lv_at hl 1 rfl) ?_
  refine lv_dup2_11 hx hb dX7_comes_36 rfl rfl ?_
  refine aldf (n := 695) (j := (118 + 326 * gn + 66 * gl)) (v := (nI j13)) B hP (show hk 1078 = 8 by decide +kernel) (show hlen 1078 = 695 by decide +kernel) rfl (by omega) (by decide) (by rw [e21]; exact up_get_ne (Or.inr (by omega)) (by rw [e17]; exact up_get_ne (Or.inr (by omega)) ej13)) dX7_comes_37 ?_
  refine lv_iconst (v := 1) hx hb dX7_comes_38 (by decide) ?_
  refine lv_iadd hx hb dX7_comes_39 ?_
  refine lv_topi (fun z22 ez22 => ?_)
  obtain rfl : z22 = (nI (1 + j13)) := ez22.trans (by rw [show (nI j13) = nI j13 from rfl, show 1 = nI 1 from rfl, nI_add] <;> exact congrArg nI (by omega))
  refine astn (n := 695) (j := (118 + 326 * gn + 66 * gl)) B hP hS (show hk 1078 = 8 by decide +kernel) (show hlen 1078 = 695 by decide +kernel) rfl (by omega) (by decide) dX7_comes_40 (fun H locs hP hS => ?_)
  obtain ⟨ρ23, e24⟩ : ∃ z, z = up ρ20 1078 (118 + 326 * gn + 66 * gl) (nI (1 + j13)) := ⟨_, rfl⟩
  rw [← e24] at hP
  have hI : RI r Bt M L X ρ23 := by rw [e24]; exact RI_up hI (ok_nup (n0 := gn) (l0 := gl) (j := (118 + 326 * gn + 66 * gl)) (by omega) (by omega) (iR_w (a := 1) (b := 8) (nI_iR (j := (1 + j13)) (a := 1) (b := 8) (by omega) (by omega) (by omega)) (by decide) (by decide)) (by omega))
  exact ret_v B hr hlk hP hS dX7_comes_41 (hI)

set_option maxHeartbeats 4000000 in
set_option maxRecDepth 100000 in
theorem d_X7_badOf (l : Launch) (E : hE) (ρ r : Nat → Nat → Int32) (Bt : Nat) (hBt : Bt ≤ 1000000) (M : Nat → Int32) (L : Nat → Nat) (X : Nat × Nat → Prop) (na1 : Nat) (lna1 : 0 ≤ na1) (una1 : na1 ≤ 1) (a2 : Int32) (hI : RI r Bt M L X ρ) : Met l yX7_badOf (.code yX7_badOf cX7_badOf 7 (some .int) :: gw_all) (rmk 2 80) (cPre E ρ [.ref (E.2.1 + 1076), .int (nI na1), .int a2]) (cI E (fun v ρ1 => ρ = ρ1 ∧ RI r Bt M L X ρ1)) 0 0 (hA E) := by
  refine ent (own := RX7) (by decide) rfl (Nat.le_of_ble_eq_true rfl) ?_
  intro p e s m below meth c ls B hr hlk hl hP hS
  have hx := B.1.1
  have hb := B.1.2.1
  have hown := B.1.2.2.2.1
  have hts := B.1.2.2.2.2
  have hl : lv_has ls 7 [(0, .ref (E.2.1 + 1076)), (1, .int (nI na1)), (2, .int a2)] := hl
  have b11_0 : ∀ (ls : Array Slot) (H : Heap) (locs : List Loc) (d11 : Nat) (x11_4 : Int32) (j11_5 : Nat), lv_has ls 7 [(0, .ref (E.2.1 + 1076)), (2, .int a2), (3, .int (nI (42 + 326 * na1))), (4, .int x11_4), (5, .int (nI j11_5))] → WP E ρ H → va_S (hA E) s.heap H locs → 24 - j11_5 < d11 → iR x11_4 (0) (8388607) → 0 ≤ j11_5 → j11_5 ≤ 23 → 0 ≤ na1 → na1 ≤ 1 → W p l e (rmk 2 80) s m ([.ref (E.2.1 + 1076), .int (nI na1), .int a2] : List Value).toArray below meth c H locs 0 0 (MQ below (cI E (fun v ρ1 => ρ = ρ1 ∧ RI r Bt M L X ρ1)) ([.ref (E.2.1 + 1076), .int (nI na1), .int a2] : List Value).toArray s 0 0 (hA E)) (F0 m 11 ls []) := by
    intro ls H locs d11
    induction d11 generalizing ls H locs with
    | zero => intro x11_4 j11_5 hl hP hS hd11 hx11_4 lj11_5 uj11_5 tlna1 tuna1; exact absurd hd11 (Nat.not_lt_zero _)
    | succ d11 ih11 =>
      intro x11_4 j11_5 hl hP hS hd11 hx11_4 lj11_5 uj11_5 tlna1 tuna1
      have b102_0 : ∀ (ls : Array Slot) (H : Heap) (locs : List Loc) (j102_s0 : Nat) (x102_s1 : Int32), lv_has ls 7 [(0, .ref (E.2.1 + 1076)), (2, .int a2), (3, .int (nI (42 + 326 * na1))), (5, .int (nI j11_5))] → WP E ρ H → va_S (hA E) s.heap H locs → 0 ≤ j102_s0 → j102_s0 ≤ 8388607 → iR x102_s1 (1) (4194304) → 0 ≤ j11_5 → j11_5 ≤ 22 → 0 ≤ na1 → na1 ≤ 1 → W p l e (rmk 2 80) s m ([.ref (E.2.1 + 1076), .int (nI na1), .int a2] : List Value).toArray below meth c H locs 0 0 (MQ below (cI E (fun v ρ1 => ρ = ρ1 ∧ RI r Bt M L X ρ1)) ([.ref (E.2.1 + 1076), .int (nI na1), .int a2] : List Value).toArray s 0 0 (hA E)) (F0 m 102 ls [.int x102_s1, .int (nI j102_s0)]) := by
        intro ls H locs j102_s0 x102_s1 hl hP hS lj102_s0 uj102_s0 hx102_s1 tlj11_5 tuj11_5 tlna1 tuna1
        refine lv_ior hx hb dX7_badOf_102 ?_
        refine lv_istore (lv' := [(4, .int ((nI j102_s0) ||| x102_s1)), (0, .ref (E.2.1 + 1076)), (2, .int a2), (3, .int (nI (42 + 326 * na1))), (5, .int (nI j11_5))]) hx hb dX7_badOf_103 hl (by decide) rfl (fun ls hl => ?_)
        refine lv_iinc (v := (nI (1 + j11_5))) (lv' := [(5, .int (nI (1 + j11_5))), (4, .int ((nI j102_s0) ||| x102_s1)), (0, .ref (E.2.1 + 1076)), (2, .int a2), (3, .int (nI (42 + 326 * na1)))]) hx hb dX7_badOf_105 hl (k := 4) rfl (show nI j11_5 + nI 1 = _ from (nI_add _ _).trans (congrArg nI (by omega))) (by decide) rfl (fun ls hl => ?_)
        refine lv_goto (tgt := 11) hx hb dX7_badOf_108 (by decide) ?_
        exact ih11 ls _ _ (((nI j102_s0) ||| x102_s1) : Int32) (1 + j11_5) (lv_sub hl [2, 3, 4, 1, 0] rfl) hP hS (by omega) (iR_w (iR_or (iR_w (nI_iR (j := j102_s0) (a := 0) (b := 8388607) (by omega) (by omega) (by omega)) (by decide) (by decide)) (iR_w hx102_s1 (by decide) (by decide))) (by decide) (by decide)) (by omega) (by omega) (by omega) (by omega)
      have b102_1 : ∀ (ls : Array Slot) (H : Heap) (locs : List Loc) (j102_s0 : Nat), lv_has ls 7 [(0, .ref (E.2.1 + 1076)), (2, .int a2), (3, .int (nI (42 + 326 * na1))), (5, .int (nI j11_5))] → WP E ρ H → va_S (hA E) s.heap H locs → 0 ≤ j102_s0 → j102_s0 ≤ 8388607 → 0 ≤ j11_5 → j11_5 ≤ 22 → 0 ≤ na1 → na1 ≤ 1 → W p l e (rmk 2 80) s m ([.ref (E.2.1 + 1076), .int (nI na1), .int a2] : List Value).toArray below meth c H locs 0 0 (MQ below (cI E (fun v ρ1 => ρ = ρ1 ∧ RI r Bt M L X ρ1)) ([.ref (E.2.1 + 1076), .int (nI na1), .int a2] : List Value).toArray s 0 0 (hA E)) (F0 m 102 ls [.int 0, .int (nI j102_s0)]) := by
        intro ls H locs j102_s0 hl hP hS lj102_s0 uj102_s0 tlj11_5 tuj11_5 tlna1 tuna1
        refine lv_ior hx hb dX7_badOf_102 ?_
        refine lv_istore (lv' := [(4, .int ((nI j102_s0) ||| 0)), (0, .ref (E.2.1 + 1076)), (2, .int a2), (3, .int (nI (42 + 326 * na1))), (5, .int (nI j11_5))]) hx hb dX7_badOf_103 hl (by decide) rfl (fun ls hl => ?_)
        refine lv_iinc (v := (nI (1 + j11_5))) (lv' := [(5, .int (nI (1 + j11_5))), (4, .int ((nI j102_s0) ||| 0)), (0, .ref (E.2.1 + 1076)), (2, .int a2), (3, .int (nI (42 + 326 * na1)))]) hx hb dX7_badOf_105 hl (k := 4) rfl (show nI j11_5 + nI 1 = _ from (nI_add _ _).trans (congrArg nI (by omega))) (by decide) rfl (fun ls hl => ?_)
        refine lv_goto (tgt := 11) hx hb dX7_badOf_108 (by decide) ?_
        exact ih11 ls _ _ (((nI j102_s0) ||| 0) : Int32) (1 + j11_5) (lv_sub hl [2, 3, 4, 1, 0] rfl) hP hS (by omega) (iR_w (iR_or (iR_w (nI_iR (j := j102_s0) (a := 0) (b := 8388607) (by omega) (by omega) (by omega)) (by decide) (by decide)) (iR_w (show iR 0 (0) (0) from ⟨by decide, by decide⟩) (by decide) (by decide))) (by decide) (by decide)) (by omega) (by omega) (by omega) (by omega)
      have b85_0 : ∀ (ls : Array Slot) (H : Heap) (locs : List Loc) , lv_has ls 7 [(0, .ref (E.2.1 + 1076)), (2, .int a2), (3, .int (nI (42 + 326 * na1))), (4, .int x11_4), (5, .int (nI j11_5))] → WP E ρ H → va_S (hA E) s.heap H locs → 0 ≤ j11_5 → j11_5 ≤ 22 → 0 ≤ na1 → na1 ≤ 1 → W p l e (rmk 2 80) s m ([.ref (E.2.1 + 1076), .int (nI na1), .int a2] : List Value).toArray below meth c H locs 0 0 (MQ below (cI E (fun v ρ1 => ρ = ρ1 ∧ RI r Bt M L X ρ1)) ([.ref (E.2.1 + 1076), .int (nI na1), .int a2] : List Value).toArray s 0 0 (hA E)) (F0 m 85 ls [.int 0]) := by
        intro ls H locs  hl hP hS tlj11_5 tuj11_5 tlna1 tuna1
        refine lv_istore (lv' := [(6, .int 0), (0, .ref (E.2.1 + 1076)), (2, .int a2), (3, .int (nI (42 + 326 * na1))), (4, .int x11_4), (5, .int (nI j11_5))]) hx hb dX7_badOf_85 hl (by decide) rfl (fun ls hl => ?_)
        refine lv_iload hx hb dX7_badOf_87 (lv_at hl 4 rfl) ?_
        obtain ⟨j249, lj249, uj249, ej249⟩ := iR_nat (a := 0) (b := 8388607) hx11_4
        refine lv_topi (fun z250 ez250 => ?_)
        obtain rfl : z250 = nI j249 := ez250.trans ej249
        refine lv_iload hx hb dX7_badOf_89 (lv_at hl 0 rfl) ?_
        refine lv_if_eq (tgt := 101) hx hb dX7_badOf_91 (by decide) (fun _ => ?_) (fun c251 => absurd rfl c251)
        refine lv_iconst (v := 0) hx hb dX7_badOf_101 (by decide) ?_
        exact b102_1 ls _ _ j249 (lv_sub hl [1, 2, 3, 5] rfl) hP hS (by omega) (by omega) (by omega) (by omega) (by omega) (by omega)
      have b85_1 : ∀ (ls : Array Slot) (H : Heap) (locs : List Loc) , lv_has ls 7 [(0, .ref (E.2.1 + 1076)), (2, .int a2), (3, .int (nI (42 + 326 * na1))), (4, .int x11_4), (5, .int (nI j11_5))] → WP E ρ H → va_S (hA E) s.heap H locs → 0 ≤ j11_5 → j11_5 ≤ 22 → 0 ≤ na1 → na1 ≤ 1 → W p l e (rmk 2 80) s m ([.ref (E.2.1 + 1076), .int (nI na1), .int a2] : List Value).toArray below meth c H locs 0 0 (MQ below (cI E (fun v ρ1 => ρ = ρ1 ∧ RI r Bt M L X ρ1)) ([.ref (E.2.1 + 1076), .int (nI na1), .int a2] : List Value).toArray s 0 0 (hA E)) (F0 m 85 ls [.int 1]) := by
        intro ls H locs  hl hP hS tlj11_5 tuj11_5 tlna1 tuna1
        refine lv_istore (lv' := [(6, .int 1), (0, .ref (E.2.1 + 1076)), (2, .int a2), (3, .int (nI (42 + 326 * na1))), (4, .int x11_4), (5, .int (nI j11_5))]) hx hb dX7_badOf_85 hl (by decide) rfl (fun ls hl => ?_)
        refine lv_iload hx hb dX7_badOf_87 (lv_at hl 4 rfl) ?_
        obtain ⟨j252, lj252, uj252, ej252⟩ := iR_nat (a := 0) (b := 8388607) hx11_4
        refine lv_topi (fun z253 ez253 => ?_)
        obtain rfl : z253 = nI j252 := ez253.trans ej252
        refine lv_iload hx hb dX7_badOf_89 (lv_at hl 0 rfl) ?_
        refine lv_if_eq (tgt := 101) hx hb dX7_badOf_91 (by decide) (fun c254 => absurd c254 (iR_ne (show iR 1 (1) (1) from ⟨by decide, by decide⟩) (show iR 0 (0) (0) from ⟨by decide, by decide⟩) (by decide))) (fun _ => ?_)
        refine lv_iconst (v := 1) hx hb dX7_badOf_94 (by decide) ?_
        refine lv_iload hx hb dX7_badOf_95 (lv_at hl 5 rfl) ?_
        refine lv_ishl hx hb dX7_badOf_97 ?_
        refine lv_goto (tgt := 102) hx hb dX7_badOf_98 (by decide) ?_
        exact b102_0 ls _ _ j252 ((1 <<< (((nI j11_5) : Int32) &&& 31)) : Int32) (lv_sub hl [1, 2, 3, 5] rfl) hP hS (by omega) (by omega) (iR_w (iR_shl1 (c := j11_5) (by omega)) (by decide) (by decide)) (by omega) (by omega) (by omega) (by omega)
      have b84_0 : ∀ (ls : Array Slot) (H : Heap) (locs : List Loc) , lv_has ls 7 [(0, .ref (E.2.1 + 1076)), (2, .int a2), (3, .int (nI (42 + 326 * na1))), (4, .int x11_4), (5, .int (nI j11_5))] → WP E ρ H → va_S (hA E) s.heap H locs → 0 ≤ j11_5 → j11_5 ≤ 22 → 0 ≤ na1 → na1 ≤ 1 → W p l e (rmk 2 80) s m ([.ref (E.2.1 + 1076), .int (nI na1), .int a2] : List Value).toArray below meth c H locs 0 0 (MQ below (cI E (fun v ρ1 => ρ = ρ1 ∧ RI r Bt M L X ρ1)) ([.ref (E.2.1 + 1076), .int (nI na1), .int a2] : List Value).toArray s 0 0 (hA E)) (F0 m 84 ls []) := by
        intro ls H locs  hl hP hS tlj11_5 tuj11_5 tlna1 tuna1
        refine lv_iconst (v := 0) hx hb dX7_badOf_84 (by decide) ?_
        exact b85_0 ls _ _  (lv_sub hl [0, 1, 2, 3, 4] rfl) hP hS (by omega) (by omega) (by omega) (by omega)
      refine lv_iload hx hb dX7_badOf_11 (lv_at hl 4 rfl) ?_
      refine lv_bipush (v := 23) hx hb dX7_badOf_13 (by decide) ?_
      refine lv_icmp_ge (tgt := 111) hx hb dX7_badOf_15 (by decide) (fun c255 => ?_) (fun c255 => ?_)
      · skip
        have n256 := mt (nx_lt (a := j11_5) (b := 23) (by omega) (by omega)).mpr (show ¬ (nI j11_5 < nI 23) from (Int32.not_lt.mpr c255))
        refine lv_iload hx hb dX7_badOf_111 (lv_at hl 3 rfl) ?_
        obtain ⟨j257, lj257, uj257, ej257⟩ := iR_nat (a := 0) (b := 8388607) hx11_4
        refine lv_topi (fun z258 ez258 => ?_)
        obtain rfl : z258 = nI j257 := ez258.trans ej257
        exact ret_i B hr hlk hP hS dX7_badOf_113 (⟨rfl, hI⟩)
      · skip
        have n259 := (nx_lt (a := j11_5) (b := 23) (by omega) (by omega)).mp (show (nI j11_5 < nI 23) from (Int32.not_le.mp c255))
        refine lv_aload_n hx hb dX7_badOf_18 rfl (lv_at hl 0 rfl) ?_
        refine get7 B hP (show hk 1076 = 7 by decide +kernel) 3 (by decide) mw_1030 rfl dX7_badOf_19 ?_
        refine lv_iload_n hx hb dX7_badOf_22 rfl (lv_at hl 2 rfl) ?_
        refine lv_iconst (v := 2) hx hb dX7_badOf_23 (by decide) ?_
        refine lv_iadd hx hb dX7_badOf_24 ?_
        refine lv_topi (fun z260 ez260 => ?_)
        obtain rfl : z260 = (nI (44 + 326 * na1)) := ez260.trans (by rw [show (nI (42 + 326 * na1)) = nI (42 + 326 * na1) from rfl, show 2 = nI 2 from rfl, nI_add] <;> exact congrArg nI (by omega))
        refine aldn (n := 695) (j := (44 + 326 * na1)) B hP (show hk 1078 = 8 by decide +kernel) (show hlen 1078 = 695 by decide +kernel) rfl (by omega) (by decide) dX7_badOf_25 ?_
        refine lv_iload hx hb dX7_badOf_26 (lv_at hl 4 rfl) ?_
        refine lv_ishr hx hb dX7_badOf_28 ?_
        refine lv_iconst (v := 1) hx hb dX7_badOf_29 (by decide) ?_
        refine lv_iand hx hb dX7_badOf_30 ?_
        refine lv_iconst (v := 1) hx hb dX7_badOf_31 (by decide) ?_
        refine lv_icmp_ne (tgt := 84) hx hb dX7_badOf_32 (by decide) (fun c261 => ?_) (fun c261 => ?_)
        · skip
          have i262 : iR (((ρ 1078 (44 + 326 * na1)) >>> (((nI j11_5) : Int32) &&& 31)) &&& 1) (0) (0) := (iR_neL (iR_andR (show iR 1 (1) (1) from ⟨by decide, by decide⟩) (by decide)) (show iR 1 (1) (1) from ⟨by decide, by decide⟩) c261 (by decide) (by decide))
          exact b84_0 ls _ _  (lv_sub hl [0, 1, 2, 3, 4] rfl) hP hS (by omega) (by omega) (by omega) (by omega)
        · skip
          have i263 : iR (((ρ 1078 (44 + 326 * na1)) >>> (((nI j11_5) : Int32) &&& 31)) &&& 1) (1) (1) := (by rw [c261]; exact ⟨by decide, by decide⟩)
          refine lv_aload_n hx hb dX7_badOf_35 rfl (lv_at hl 0 rfl) ?_
          refine get7 B hP (show hk 1076 = 7 by decide +kernel) 3 (by decide) mw_1030 rfl dX7_badOf_36 ?_
          refine lv_iload_n hx hb dX7_badOf_39 rfl (lv_at hl 2 rfl) ?_
          refine lv_bipush (v := 16) hx hb dX7_badOf_40 (by decide) ?_
          refine lv_iadd hx hb dX7_badOf_42 ?_
          refine lv_topi (fun z264 ez264 => ?_)
          obtain rfl : z264 = (nI (58 + 326 * na1)) := ez264.trans (by rw [show (nI (42 + 326 * na1)) = nI (42 + 326 * na1) from rfl, show 16 = nI 16 from rfl, nI_add] <;> exact congrArg nI (by omega))
          refine lv_iload hx hb dX7_badOf_43 (lv_at hl 4 rfl) ?_
          refine lv_iadd hx hb dX7_badOf_45 ?_
          refine lv_topi (fun z265 ez265 => ?_)
          obtain rfl : z265 = (nI (58 + 326 * na1 + j11_5)) := ez265.trans (by rw [show (nI (58 + 326 * na1)) = nI (58 + 326 * na1) from rfl, show (nI j11_5) = nI j11_5 from rfl, nI_add] <;> exact congrArg nI (by omega))
          refine aldn (n := 695) (j := (58 + 326 * na1 + j11_5)) B hP (show hk 1078 = 8 by decide +kernel) (show hlen 1078 = 695 by decide +kernel) rfl (by omega) (by decide) dX7_badOf_46 ?_
          refine lv_iload_n hx hb dX7_badOf_47 rfl (lv_at hl 1 rfl) ?_
          refine lv_icmp_lt (tgt := 84) hx hb dX7_badOf_48 (by decide) (fun c266 => ?_) (fun c266 => ?_)
          · skip
            exact b84_0 ls _ _  (lv_sub hl [0, 1, 2, 3, 4] rfl) hP hS (by omega) (by omega) (by omega) (by omega)
          · skip
            refine lv_iconst (v := 2) hx hb dX7_badOf_51 (by decide) ?_
            refine lv_aload_n hx hb dX7_badOf_52 rfl (lv_at hl 0 rfl) ?_
            refine get7 B hP (show hk 1076 = 7 by decide +kernel) 3 (by decide) mw_1030 rfl dX7_badOf_53 ?_
            refine lv_iload_n hx hb dX7_badOf_56 rfl (lv_at hl 2 rfl) ?_
            refine lv_bipush (v := 39) hx hb dX7_badOf_57 (by decide) ?_
            refine lv_iadd hx hb dX7_badOf_59 ?_
            refine lv_topi (fun z267 ez267 => ?_)
            obtain rfl : z267 = (nI (81 + 326 * na1)) := ez267.trans (by rw [show (nI (42 + 326 * na1)) = nI (42 + 326 * na1) from rfl, show 39 = nI 39 from rfl, nI_add] <;> exact congrArg nI (by omega))
            refine lv_iload hx hb dX7_badOf_60 (lv_at hl 4 rfl) ?_
            refine lv_iadd hx hb dX7_badOf_62 ?_
            refine lv_topi (fun z268 ez268 => ?_)
            obtain rfl : z268 = (nI (81 + 326 * na1 + j11_5)) := ez268.trans (by rw [show (nI (81 + 326 * na1)) = nI (81 + 326 * na1) from rfl, show (nI j11_5) = nI j11_5 from rfl, nI_add] <;> exact congrArg nI (by omega))
            refine aldn (n := 695) (j := (81 + 326 * na1 + j11_5)) B hP (show hk 1078 = 8 by decide +kernel) (show hlen 1078 = 695 by decide +kernel) rfl (by omega) (by decide) dX7_badOf_63 ?_
            refine lv_imul hx hb dX7_badOf_64 ?_
            refine lv_aload_n hx hb dX7_badOf_65 rfl (lv_at hl 0 rfl) ?_
            refine get7 B hP (show hk 1076 = 7 by decide +kernel) 3 (by decide) mw_1030 rfl dX7_badOf_66 ?_
            refine lv_iload_n hx hb dX7_badOf_69 rfl (lv_at hl 2 rfl) ?_
            refine lv_bipush (v := 16) hx hb dX7_badOf_70 (by decide) ?_
            refine lv_iadd hx hb dX7_badOf_72 ?_
            refine lv_topi (fun z269 ez269 => ?_)
            obtain rfl : z269 = (nI (58 + 326 * na1)) := ez269.trans (by rw [show (nI (42 + 326 * na1)) = nI (42 + 326 * na1) from rfl, show 16 = nI 16 from rfl, nI_add] <;> exact congrArg nI (by omega))
            refine lv_iload hx hb dX7_badOf_73 (lv_at hl 4 rfl) ?_
            refine lv_iadd hx hb dX7_badOf_75 ?_
            refine lv_topi (fun z270 ez270 => ?_)
            obtain rfl : z270 = (nI (58 + 326 * na1 + j11_5)) := ez270.trans (by rw [show (nI (58 + 326 * na1)) = nI (58 + 326 * na1) from rfl, show (nI j11_5) = nI j11_5 from rfl, nI_add] <;> exact congrArg nI (by omega))
            refine aldf (n := 695) (j := (58 + 326 * na1 + j11_5)) (v := (ρ 1078 (58 + 326 * na1 + j11_5))) B hP (show hk 1078 = 8 by decide +kernel) (show hlen 1078 = 695 by decide +kernel) rfl (by omega) (by decide) rfl dX7_badOf_76 ?_
            refine lv_icmp_ge (tgt := 84) hx hb dX7_badOf_77 (by decide) (fun c271 => ?_) (fun c271 => ?_)
            · skip
              exact b84_0 ls _ _  (lv_sub hl [0, 1, 2, 3, 4] rfl) hP hS (by omega) (by omega) (by omega) (by omega)
            · skip
              refine lv_iconst (v := 1) hx hb dX7_badOf_80 (by decide) ?_
              refine lv_goto (tgt := 85) hx hb dX7_badOf_81 (by decide) ?_
              exact b85_1 ls _ _  (lv_sub hl [0, 1, 2, 3, 4] rfl) hP hS (by omega) (by omega) (by omega) (by omega)
  refine lv_iload_n hx hb dX7_badOf_0 rfl (lv_at hl 1 rfl) ?_
  refine call_i (cS (av := [.int (nI na1)]) (rest := []) B hP hS (d_X7_netAt l E ρ r Bt hBt M L X na1 (by omega) (by omega) hI) lk_RX7_75 rfl rfl hl.1 (Nat.le_of_ble_eq_true rfl) ⟨Nat.le_of_ble_eq_true rfl, Nat.le_of_ble_eq_true rfl⟩ ⟨Nat.le_of_ble_eq_true rfl, Nat.le_of_ble_eq_true rfl⟩ dX7_badOf_1) hS (fun r272 ρ273 H locs q274 hP hS => ?_)
  obtain ⟨rfl, hI, q274⟩ := q274
  obtain rfl : r272 = nI (42 + 326 * na1) := q274.trans (congrArg nI (by omega))
  refine lv_istore_n (lv' := [(3, .int (nI (42 + 326 * na1))), (0, .ref (E.2.1 + 1076)), (1, .int (nI na1)), (2, .int a2)]) hx hb dX7_badOf_4 rfl hl (by decide) rfl (fun ls hl => ?_)
  refine lv_iconst (v := 0) hx hb dX7_badOf_5 (by decide) ?_
  refine lv_istore (lv' := [(4, .int 0), (3, .int (nI (42 + 326 * na1))), (0, .ref (E.2.1 + 1076)), (1, .int (nI na1)), (2, .int a2)]) hx hb dX7_badOf_6 hl (by decide) rfl (fun ls hl => ?_)
  refine lv_iconst (v := 0) hx hb dX7_badOf_8 (by decide) ?_
  refine lv_istore (lv' := [(5, .int 0), (4, .int 0), (3, .int (nI (42 + 326 * na1))), (0, .ref (E.2.1 + 1076)), (1, .int (nI na1)), (2, .int a2)]) hx hb dX7_badOf_9 hl (by decide) rfl (fun ls hl => ?_)
  exact b11_0 ls _ _ _ (0 : Int32) 0 (lv_sub hl [3, 5, 2, 1, 0] rfl) hP hS (Nat.lt_succ_self _) (iR_w (show iR 0 (0) (0) from ⟨by decide, by decide⟩) (by decide) (by decide)) (by omega) (by omega) (by omega) (by omega)

set_option maxHeartbeats 4000000 in
set_option maxRecDepth 100000 in
theorem d_X7_aheadOf (l : Launch) (E : hE) (ρ r : Nat → Nat → Int32) (Bt : Nat) (hBt : Bt ≤ 1000000) (M : Nat → Int32) (L : Nat → Nat) (X : Nat × Nat → Prop) (gn : Nat) (ugn : gn ≤ 1) (na2 : Nat) (lna2 : 0 ≤ na2) (una2 : na2 ≤ 22) (hI : RI r Bt M L X ρ) : Met l yX7_aheadOf (.code yX7_aheadOf cX7_aheadOf 6 (some .int) :: gw_all) (rmk 1 40) (cPre E ρ [.ref (E.2.1 + 1076), .int (nI (42 + 326 * gn)), .int (nI na2)]) (cI E (fun v ρ1 => ρ = ρ1 ∧ RI r Bt M L X ρ1)) 0 0 (hA E) := by
  refine ent (own := RX7) (by decide) rfl (Nat.le_of_ble_eq_true rfl) ?_
  intro p e s m below meth c ls B hr hlk hl hP hS
  have hx := B.1.1
  have hb := B.1.2.1
  have hown := B.1.2.2.2.1
  have hts := B.1.2.2.2.2
  have hl : lv_has ls 6 [(0, .ref (E.2.1 + 1076)), (1, .int (nI (42 + 326 * gn))), (2, .int (nI na2))] := hl
  have b5_0 : ∀ (ls : Array Slot) (H : Heap) (locs : List Loc) (d5 : Nat) (x5_3 : Int32) (j5_4 : Nat), lv_has ls 6 [(0, .ref (E.2.1 + 1076)), (1, .int (nI (42 + 326 * gn))), (2, .int (nI na2)), (3, .int x5_3), (4, .int (nI j5_4))] → WP E ρ H → va_S (hA E) s.heap H locs → 24 - j5_4 < d5 → iR x5_3 (-2147483648) (2147483647) → 0 ≤ j5_4 → j5_4 ≤ 23 → 0 ≤ gn → gn ≤ 1 → 0 ≤ na2 → na2 ≤ 22 → W p l e (rmk 1 40) s m ([.ref (E.2.1 + 1076), .int (nI (42 + 326 * gn)), .int (nI na2)] : List Value).toArray below meth c H locs 0 0 (MQ below (cI E (fun v ρ1 => ρ = ρ1 ∧ RI r Bt M L X ρ1)) ([.ref (E.2.1 + 1076), .int (nI (42 + 326 * gn)), .int (nI na2)] : List Value).toArray s 0 0 (hA E)) (F0 m 5 ls []) := by
    intro ls H locs d5
    induction d5 generalizing ls H locs with
    | zero => intro x5_3 j5_4 hl hP hS hd5 hx5_3 lj5_4 uj5_4 tlgn tugn tlna2 tuna2; exact absurd hd5 (Nat.not_lt_zero _)
    | succ d5 ih5 =>
      intro x5_3 j5_4 hl hP hS hd5 hx5_3 lj5_4 uj5_4 tlgn tugn tlna2 tuna2
      have b77_0 : ∀ (ls : Array Slot) (H : Heap) (locs : List Loc) , lv_has ls 6 [(0, .ref (E.2.1 + 1076)), (1, .int (nI (42 + 326 * gn))), (2, .int (nI na2)), (4, .int (nI j5_4))] → WP E ρ H → va_S (hA E) s.heap H locs → 0 ≤ gn → gn ≤ 1 → 0 ≤ j5_4 → j5_4 ≤ 22 → 0 ≤ na2 → na2 ≤ 22 → W p l e (rmk 1 40) s m ([.ref (E.2.1 + 1076), .int (nI (42 + 326 * gn)), .int (nI na2)] : List Value).toArray below meth c H locs 0 0 (MQ below (cI E (fun v ρ1 => ρ = ρ1 ∧ RI r Bt M L X ρ1)) ([.ref (E.2.1 + 1076), .int (nI (42 + 326 * gn)), .int (nI na2)] : List Value).toArray s 0 0 (hA E)) (F0 m 77 ls [.int 0, .int x5_3]) := by
        intro ls H locs  hl hP hS tlgn tugn tlj5_4 tuj5_4 tlna2 tuna2
        refine lv_iadd hx hb dX7_aheadOf_77 ?_
        refine lv_istore_n (lv' := [(3, .int (x5_3 + 0)), (0, .ref (E.2.1 + 1076)), (1, .int (nI (42 + 326 * gn))), (2, .int (nI na2)), (4, .int (nI j5_4))]) hx hb dX7_aheadOf_78 rfl hl (by decide) rfl (fun ls hl => ?_)
        refine lv_iinc (v := (nI (1 + j5_4))) (lv' := [(4, .int (nI (1 + j5_4))), (3, .int (x5_3 + 0)), (0, .ref (E.2.1 + 1076)), (1, .int (nI (42 + 326 * gn))), (2, .int (nI na2))]) hx hb dX7_aheadOf_79 hl (k := 4) rfl (show nI j5_4 + nI 1 = _ from (nI_add _ _).trans (congrArg nI (by omega))) (by decide) rfl (fun ls hl => ?_)
        refine lv_goto (tgt := 5) hx hb dX7_aheadOf_82 (by decide) ?_
        exact ih5 ls _ _ ((x5_3 + 0) : Int32) (1 + j5_4) (lv_sub hl [2, 3, 4, 1, 0] rfl) hP hS (by omega) (iR_w (iR_add (a' := -2147483648) (b' := 2147483647) hx5_3 (show iR 0 (0) (0) from ⟨by decide, by decide⟩) (by decide) (by decide) (by decide) (by decide)) (by decide) (by decide)) (by omega) (by omega) (by omega) (by omega) (by omega) (by omega)
      have b77_1 : ∀ (ls : Array Slot) (H : Heap) (locs : List Loc) , lv_has ls 6 [(0, .ref (E.2.1 + 1076)), (1, .int (nI (42 + 326 * gn))), (2, .int (nI na2)), (4, .int (nI j5_4))] → WP E ρ H → va_S (hA E) s.heap H locs → iR ((ρ 1078 (81 + 326 * gn + j5_4)) - (ρ 1078 (81 + 326 * gn + na2))) (0) (2147483647) → 0 ≤ gn → gn ≤ 1 → 0 ≤ j5_4 → j5_4 ≤ 22 → 0 ≤ na2 → na2 ≤ 22 → W p l e (rmk 1 40) s m ([.ref (E.2.1 + 1076), .int (nI (42 + 326 * gn)), .int (nI na2)] : List Value).toArray below meth c H locs 0 0 (MQ below (cI E (fun v ρ1 => ρ = ρ1 ∧ RI r Bt M L X ρ1)) ([.ref (E.2.1 + 1076), .int (nI (42 + 326 * gn)), .int (nI na2)] : List Value).toArray s 0 0 (hA E)) (F0 m 77 ls [.int 1, .int x5_3]) := by
        intro ls H locs  hl hP hS f__ρ_1078__81___326___gn___j5_4______ρ_1078__81___326___gn___na2___ tlgn tugn tlj5_4 tuj5_4 tlna2 tuna2
        refine lv_iadd hx hb dX7_aheadOf_77 ?_
        refine lv_istore_n (lv' := [(3, .int (x5_3 + 1)), (0, .ref (E.2.1 + 1076)), (1, .int (nI (42 + 326 * gn))), (2, .int (nI na2)), (4, .int (nI j5_4))]) hx hb dX7_aheadOf_78 rfl hl (by decide) rfl (fun ls hl => ?_)
        refine lv_iinc (v := (nI (1 + j5_4))) (lv' := [(4, .int (nI (1 + j5_4))), (3, .int (x5_3 + 1)), (0, .ref (E.2.1 + 1076)), (1, .int (nI (42 + 326 * gn))), (2, .int (nI na2))]) hx hb dX7_aheadOf_79 hl (k := 4) rfl (show nI j5_4 + nI 1 = _ from (nI_add _ _).trans (congrArg nI (by omega))) (by decide) rfl (fun ls hl => ?_)
        refine lv_goto (tgt := 5) hx hb dX7_aheadOf_82 (by decide) ?_
        exact ih5 ls _ _ ((x5_3 + 1) : Int32) (1 + j5_4) (lv_sub hl [2, 3, 4, 1, 0] rfl) hP hS (by omega) (iR_w (iR_any (x5_3 + 1)) (by decide) (by decide)) (by omega) (by omega) (by omega) (by omega) (by omega) (by omega)
      have b76_0 : ∀ (ls : Array Slot) (H : Heap) (locs : List Loc) , lv_has ls 6 [(0, .ref (E.2.1 + 1076)), (1, .int (nI (42 + 326 * gn))), (2, .int (nI na2)), (4, .int (nI j5_4))] → WP E ρ H → va_S (hA E) s.heap H locs → 0 ≤ gn → gn ≤ 1 → 0 ≤ j5_4 → j5_4 ≤ 22 → 0 ≤ na2 → na2 ≤ 22 → W p l e (rmk 1 40) s m ([.ref (E.2.1 + 1076), .int (nI (42 + 326 * gn)), .int (nI na2)] : List Value).toArray below meth c H locs 0 0 (MQ below (cI E (fun v ρ1 => ρ = ρ1 ∧ RI r Bt M L X ρ1)) ([.ref (E.2.1 + 1076), .int (nI (42 + 326 * gn)), .int (nI na2)] : List Value).toArray s 0 0 (hA E)) (F0 m 76 ls [.int x5_3]) := by
        intro ls H locs  hl hP hS tlgn tugn tlj5_4 tuj5_4 tlna2 tuna2
        refine lv_iconst (v := 0) hx hb dX7_aheadOf_76 (by decide) ?_
        exact b77_0 ls _ _  (lv_sub hl [0, 1, 2, 3] rfl) hP hS (by omega) (by omega) (by omega) (by omega) (by omega) (by omega)
      have b72_0 : ∀ (ls : Array Slot) (H : Heap) (locs : List Loc) , lv_has ls 6 [(0, .ref (E.2.1 + 1076)), (1, .int (nI (42 + 326 * gn))), (2, .int (nI na2)), (4, .int (nI j5_4))] → WP E ρ H → va_S (hA E) s.heap H locs → iR ((ρ 1078 (81 + 326 * gn + j5_4)) - (ρ 1078 (81 + 326 * gn + na2))) (0) (2147483647) → 0 ≤ gn → gn ≤ 1 → 0 ≤ j5_4 → j5_4 ≤ 22 → 0 ≤ na2 → na2 ≤ 22 → W p l e (rmk 1 40) s m ([.ref (E.2.1 + 1076), .int (nI (42 + 326 * gn)), .int (nI na2)] : List Value).toArray below meth c H locs 0 0 (MQ below (cI E (fun v ρ1 => ρ = ρ1 ∧ RI r Bt M L X ρ1)) ([.ref (E.2.1 + 1076), .int (nI (42 + 326 * gn)), .int (nI na2)] : List Value).toArray s 0 0 (hA E)) (F0 m 72 ls [.int x5_3]) := by
        intro ls H locs  hl hP hS f__ρ_1078__81___326___gn___j5_4______ρ_1078__81___326___gn___na2___ tlgn tugn tlj5_4 tuj5_4 tlna2 tuna2
        refine lv_iconst (v := 1) hx hb dX7_aheadOf_72 (by decide) ?_
        refine lv_goto (tgt := 77) hx hb dX7_aheadOf_73 (by decide) ?_
        exact b77_1 ls _ _  (lv_sub hl [0, 1, 2, 3] rfl) hP hS (iR_w f__ρ_1078__81___326___gn___j5_4______ρ_1078__81___326___gn___na2___ (by decide) (by decide)) (by omega) (by omega) (by omega) (by omega) (by omega) (by omega)
      refine lv_iload hx hb dX7_aheadOf_5 (lv_at hl 4 rfl) ?_
      refine lv_bipush (v := 23) hx hb dX7_aheadOf_7 (by decide) ?_
      refine lv_icmp_ge (tgt := 85) hx hb dX7_aheadOf_9 (by decide) (fun c953 => ?_) (fun c953 => ?_)
      · skip
        have n954 := mt (nx_lt (a := j5_4) (b := 23) (by omega) (by omega)).mpr (show ¬ (nI j5_4 < nI 23) from (Int32.not_lt.mpr c953))
        refine lv_iload_n hx hb dX7_aheadOf_85 rfl (lv_at hl 3 rfl) ?_
        exact ret_i B hr hlk hP hS dX7_aheadOf_86 (⟨rfl, hI⟩)
      · skip
        have n955 := (nx_lt (a := j5_4) (b := 23) (by omega) (by omega)).mp (show (nI j5_4 < nI 23) from (Int32.not_le.mp c953))
        refine lv_aload_n hx hb dX7_aheadOf_12 rfl (lv_at hl 0 rfl) ?_
        refine get7 B hP (show hk 1076 = 7 by decide +kernel) 3 (by decide) mw_1030 rfl dX7_aheadOf_13 ?_
        refine lv_iload_n hx hb dX7_aheadOf_16 rfl (lv_at hl 1 rfl) ?_
        refine lv_bipush (v := 39) hx hb dX7_aheadOf_17 (by decide) ?_
        refine lv_iadd hx hb dX7_aheadOf_19 ?_
        refine lv_topi (fun z956 ez956 => ?_)
        obtain rfl : z956 = (nI (81 + 326 * gn)) := ez956.trans (by rw [show (nI (42 + 326 * gn)) = nI (42 + 326 * gn) from rfl, show 39 = nI 39 from rfl, nI_add] <;> exact congrArg nI (by omega))
        refine lv_iload hx hb dX7_aheadOf_20 (lv_at hl 4 rfl) ?_
        refine lv_iadd hx hb dX7_aheadOf_22 ?_
        refine lv_topi (fun z957 ez957 => ?_)
        obtain rfl : z957 = (nI (81 + 326 * gn + j5_4)) := ez957.trans (by rw [show (nI (81 + 326 * gn)) = nI (81 + 326 * gn) from rfl, show (nI j5_4) = nI j5_4 from rfl, nI_add] <;> exact congrArg nI (by omega))
        refine aldn (n := 695) (j := (81 + 326 * gn + j5_4)) B hP (show hk 1078 = 8 by decide +kernel) (show hlen 1078 = 695 by decide +kernel) rfl (by omega) (by decide) dX7_aheadOf_23 ?_
        refine lv_aload_n hx hb dX7_aheadOf_24 rfl (lv_at hl 0 rfl) ?_
        refine get7 B hP (show hk 1076 = 7 by decide +kernel) 3 (by decide) mw_1030 rfl dX7_aheadOf_25 ?_
        refine lv_iload_n hx hb dX7_aheadOf_28 rfl (lv_at hl 1 rfl) ?_
        refine lv_bipush (v := 39) hx hb dX7_aheadOf_29 (by decide) ?_
        refine lv_iadd hx hb dX7_aheadOf_31 ?_
        refine lv_topi (fun z958 ez958 => ?_)
        obtain rfl : z958 = (nI (81 + 326 * gn)) := ez958.trans (by rw [show (nI (42 + 326 * gn)) = nI (42 + 326 * gn) from rfl, show 39 = nI 39 from rfl, nI_add] <;> exact congrArg nI (by omega))
        refine lv_iload_n hx hb dX7_aheadOf_32 rfl (lv_at hl 2 rfl) ?_
        refine lv_iadd hx hb dX7_aheadOf_33 ?_
        refine lv_topi (fun z959 ez959 => ?_)
        obtain rfl : z959 = (nI (81 + 326 * gn + na2)) := ez959.trans (by rw [show (nI (81 + 326 * gn)) = nI (81 + 326 * gn) from rfl, show (nI na2) = nI na2 from rfl, nI_add] <;> exact congrArg nI (by omega))
        refine aldn (n := 695) (j := (81 + 326 * gn + na2)) B hP (show hk 1078 = 8 by decide +kernel) (show hlen 1078 = 695 by decide +kernel) rfl (by omega) (by decide) dX7_aheadOf_34 ?_
        refine lv_isub hx hb dX7_aheadOf_35 ?_
        refine lv_istore (lv' := [(5, .int ((ρ 1078 (81 + 326 * gn + j5_4)) - (ρ 1078 (81 + 326 * gn + na2)))), (0, .ref (E.2.1 + 1076)), (1, .int (nI (42 + 326 * gn))), (2, .int (nI na2)), (3, .int x5_3), (4, .int (nI j5_4))]) hx hb dX7_aheadOf_36 hl (by decide) rfl (fun ls hl => ?_)
        refine lv_iload_n hx hb dX7_aheadOf_38 rfl (lv_at hl 4 rfl) ?_
        refine lv_aload_n hx hb dX7_aheadOf_39 rfl (lv_at hl 1 rfl) ?_
        refine get7 B hP (show hk 1076 = 7 by decide +kernel) 3 (by decide) mw_1030 rfl dX7_aheadOf_40 ?_
        refine lv_iload_n hx hb dX7_aheadOf_43 rfl (lv_at hl 2 rfl) ?_
        refine lv_iconst (v := 2) hx hb dX7_aheadOf_44 (by decide) ?_
        refine lv_iadd hx hb dX7_aheadOf_45 ?_
        refine lv_topi (fun z960 ez960 => ?_)
        obtain rfl : z960 = (nI (44 + 326 * gn)) := ez960.trans (by rw [show (nI (42 + 326 * gn)) = nI (42 + 326 * gn) from rfl, show 2 = nI 2 from rfl, nI_add] <;> exact congrArg nI (by omega))
        refine aldn (n := 695) (j := (44 + 326 * gn)) B hP (show hk 1078 = 8 by decide +kernel) (show hlen 1078 = 695 by decide +kernel) rfl (by omega) (by decide) dX7_aheadOf_46 ?_
        refine lv_iload hx hb dX7_aheadOf_47 (lv_at hl 5 rfl) ?_
        refine lv_ishr hx hb dX7_aheadOf_49 ?_
        refine lv_iconst (v := 1) hx hb dX7_aheadOf_50 (by decide) ?_
        refine lv_iand hx hb dX7_aheadOf_51 ?_
        refine lv_iconst (v := 1) hx hb dX7_aheadOf_52 (by decide) ?_
        refine lv_icmp_ne (tgt := 76) hx hb dX7_aheadOf_53 (by decide) (fun c961 => ?_) (fun c961 => ?_)
        · skip
          have i962 : iR (((ρ 1078 (44 + 326 * gn)) >>> (((nI j5_4) : Int32) &&& 31)) &&& 1) (0) (0) := (iR_neL (iR_andR (show iR 1 (1) (1) from ⟨by decide, by decide⟩) (by decide)) (show iR 1 (1) (1) from ⟨by decide, by decide⟩) c961 (by decide) (by decide))
          exact b76_0 ls _ _  (lv_sub hl [1, 2, 3, 5] rfl) hP hS (by omega) (by omega) (by omega) (by omega) (by omega) (by omega)
        · skip
          have i963 : iR (((ρ 1078 (44 + 326 * gn)) >>> (((nI j5_4) : Int32) &&& 31)) &&& 1) (1) (1) := (by rw [c961]; exact ⟨by decide, by decide⟩)
          refine lv_iload hx hb dX7_aheadOf_56 (lv_at hl 0 rfl) ?_
          refine lv_if_gt (tgt := 72) hx hb dX7_aheadOf_58 (by decide) (fun c964 => ?_) (fun c964 => ?_)
          · skip
            have i965 : iR ((ρ 1078 (81 + 326 * gn + j5_4)) - (ρ 1078 (81 + 326 * gn + na2))) (1) (2147483647) := (iR_ltR (show iR 0 (0) (0) from ⟨by decide, by decide⟩) (iR_any ((ρ 1078 (81 + 326 * gn + j5_4)) - (ρ 1078 (81 + 326 * gn + na2)))) c964 (by decide))
            exact b72_0 ls _ _  (lv_sub hl [1, 2, 3, 5] rfl) hP hS (iR_w i965 (by decide) (by decide)) (by omega) (by omega) (by omega) (by omega) (by omega) (by omega)
          · skip
            have i966 : iR ((ρ 1078 (81 + 326 * gn + j5_4)) - (ρ 1078 (81 + 326 * gn + na2))) (-2147483648) (0) := (iR_geR (show iR 0 (0) (0) from ⟨by decide, by decide⟩) (iR_any ((ρ 1078 (81 + 326 * gn + j5_4)) - (ρ 1078 (81 + 326 * gn + na2)))) c964 (by decide))
            refine lv_iload hx hb dX7_aheadOf_61 (lv_at hl 0 rfl) ?_
            refine lv_if_ne (tgt := 76) hx hb dX7_aheadOf_63 (by decide) (fun c967 => ?_) (fun c967 => ?_)
            · skip
              have i968 : iR ((ρ 1078 (81 + 326 * gn + j5_4)) - (ρ 1078 (81 + 326 * gn + na2))) (-2147483648) (-1) := (iR_neL i966 (show iR 0 (0) (0) from ⟨by decide, by decide⟩) c967 (by decide) (by decide))
              exact b76_0 ls _ _  (lv_sub hl [1, 2, 3, 5] rfl) hP hS (by omega) (by omega) (by omega) (by omega) (by omega) (by omega)
            · skip
              have i969 : iR ((ρ 1078 (81 + 326 * gn + j5_4)) - (ρ 1078 (81 + 326 * gn + na2))) (0) (0) := (by rw [c967]; exact ⟨by decide, by decide⟩)
              refine lv_iload hx hb dX7_aheadOf_66 (lv_at hl 5 rfl) ?_
              refine lv_iload_n hx hb dX7_aheadOf_68 rfl (lv_at hl 3 rfl) ?_
              refine lv_icmp_ge (tgt := 76) hx hb dX7_aheadOf_69 (by decide) (fun c970 => ?_) (fun c970 => ?_)
              · skip
                have n971 := mt (nx_lt (a := j5_4) (b := na2) (by omega) (by omega)).mpr (show ¬ (nI j5_4 < nI na2) from (Int32.not_lt.mpr c970))
                exact b76_0 ls _ _  (lv_sub hl [1, 2, 3, 5] rfl) hP hS (by omega) (by omega) (by omega) (by omega) (by omega) (by omega)
              · skip
                have n972 := (nx_lt (a := j5_4) (b := na2) (by omega) (by omega)).mp (show (nI j5_4 < nI na2) from (Int32.not_le.mp c970))
                exact b72_0 ls _ _  (lv_sub hl [1, 2, 3, 5] rfl) hP hS (iR_w i969 (by decide) (by decide)) (by omega) (by omega) (by omega) (by omega) (by omega) (by omega)
  refine lv_iconst (v := 0) hx hb dX7_aheadOf_0 (by decide) ?_
  refine lv_istore_n (lv' := [(3, .int 0), (0, .ref (E.2.1 + 1076)), (1, .int (nI (42 + 326 * gn))), (2, .int (nI na2))]) hx hb dX7_aheadOf_1 rfl hl (by decide) rfl (fun ls hl => ?_)
  refine lv_iconst (v := 0) hx hb dX7_aheadOf_2 (by decide) ?_
  refine lv_istore (lv' := [(4, .int 0), (3, .int 0), (0, .ref (E.2.1 + 1076)), (1, .int (nI (42 + 326 * gn))), (2, .int (nI na2))]) hx hb dX7_aheadOf_3 hl (by decide) rfl (fun ls hl => ?_)
  exact b5_0 ls _ _ _ (0 : Int32) 0 (lv_sub hl [2, 3, 4, 1, 0] rfl) hP hS (Nat.lt_succ_self _) (iR_w (show iR 0 (0) (0) from ⟨by decide, by decide⟩) (by decide) (by decide)) (by omega) (by omega) (by omega) (by omega) (by omega) (by omega)

set_option maxHeartbeats 4000000 in
set_option maxRecDepth 100000 in
theorem d_X7_draw (l : Launch) (E : hE) (ρ r : Nat → Nat → Int32) (Bt : Nat) (hBt : Bt ≤ 1000000) (M : Nat → Int32) (L : Nat → Nat) (X : Nat × Nat → Prop) (hI : RI r Bt M L X ρ) : Met l yX7_draw (.code yX7_draw cX7_draw 1 (some .int) :: gw_all) (rmk 1 40) (cPre E ρ [.ref (E.2.1 + 1076)]) (cI E (fun v ρ1 => RI r Bt M L X ρ1)) 0 0 (hA E) := by
  refine ent (own := RX7) (by decide) rfl (Nat.le_of_ble_eq_true rfl) ?_
  intro p e s m below meth c ls B hr hlk hl hP hS
  have hx := B.1.1
  have hb := B.1.2.1
  have hown := B.1.2.2.2.1
  have hts := B.1.2.2.2.2
  have hl : lv_has ls 1 [(0, .ref (E.2.1 + 1076))] := hl
  refine lv_aload_n hx hb dX7_draw_0 rfl (lv_at hl 0 rfl) ?_
  refine get7 B hP (show hk 1076 = 7 by decide +kernel) 3 (by decide) mw_1030 rfl dX7_draw_1 ?_
  refine lv_bipush (v := 8) hx hb dX7_draw_4 (by decide) ?_
  refine lv_ldc2 (v := 1103) hx hb hown (hts _ mw_1309) dX7_draw_6 ?_
  refine lv_aload_n hx hb dX7_draw_9 rfl (lv_at hl 0 rfl) ?_
  refine get7 B hP (show hk 1076 = 7 by decide +kernel) 3 (by decide) mw_1030 rfl dX7_draw_10 ?_
  refine lv_bipush (v := 8) hx hb dX7_draw_13 (by decide) ?_
  refine aldn (n := 695) (j := 8) B hP (show hk 1078 = 8 by decide +kernel) (show hlen 1078 = 695 by decide +kernel) rfl (by omega) (by decide) dX7_draw_15 ?_
  refine lv_i2l hx hb dX7_draw_16 rfl ?_
  refine lv_lmul hx hb dX7_draw_17 ?_
  refine lv_ldc2 (v := 12345) hx hb hown (hts _ mw_1310) dX7_draw_18 ?_
  refine lv_ladd hx hb dX7_draw_21 ?_
  refine lv_ldc2 (v := 1000003) hx hb hown (hts _ mw_1311) dX7_draw_22 ?_
  refine lv_lrem hx hb dX7_draw_25 (by decide) ?_
  refine lv_l2i hx hb dX7_draw_26 rfl ?_
  refine astn (n := 695) (j := 8) B hP hS (show hk 1078 = 8 by decide +kernel) (show hlen 1078 = 695 by decide +kernel) rfl (by omega) (by decide) dX7_draw_27 (fun H locs hP hS => ?_)
  obtain ⟨ρ3, e4⟩ : ∃ z, z = up ρ 1078 8 (((1103 * (ρ 1078 8).toInt64) + 12345) - ((1103 * (ρ 1078 8).toInt64) + 12345) / 1000003 * 1000003).toInt32 := ⟨_, rfl⟩
  rw [← e4] at hP
  have hI : RI r Bt M L X ρ3 := by rw [e4]; exact RI_up hI (ok_head (by omega) (by omega) (by omega))
  refine lv_aload_n hx hb dX7_draw_28 rfl (lv_at hl 0 rfl) ?_
  refine get7 B hP (show hk 1076 = 7 by decide +kernel) 3 (by decide) mw_1030 rfl dX7_draw_29 ?_
  refine lv_bipush (v := 8) hx hb dX7_draw_32 (by decide) ?_
  refine aldf (n := 695) (j := 8) (v := (((1103 * (ρ 1078 8).toInt64) + 12345) - ((1103 * (ρ 1078 8).toInt64) + 12345) / 1000003 * 1000003).toInt32) B hP (show hk 1078 = 8 by decide +kernel) (show hlen 1078 = 695 by decide +kernel) rfl (by omega) (by decide) (by rw [e4]; exact up_get_at) dX7_draw_34 ?_
  refine lv_bipush (v := 16) hx hb dX7_draw_35 (by decide) ?_
  refine lv_irem hx hb dX7_draw_37 (by decide) ?_
  exact ret_i B hr hlk hP hS dX7_draw_38 (hI)

set_option maxHeartbeats 4000000 in
set_option maxRecDepth 100000 in
theorem d_X7_mapsBecomeN (l : Launch) (E : hE) (ρ r : Nat → Nat → Int32) (Bt : Nat) (hBt : Bt ≤ 1000000) (M : Nat → Int32) (L : Nat → Nat) (X : Nat × Nat → Prop) (gn : Nat) (ugn : gn ≤ 1) (hI : RI r Bt M L X ρ) (hm : iR (M gn) 0 5) : Met l yX7_mapsBecome (.code yX7_mapsBecome cX7_mapsBecome 5 none :: gw_all) (rmk 1 40) (cPre E ρ [.ref (E.2.1 + 1076), .int (nI (45 + 326 * gn)), .int (nI (46 + 326 * gn)), .int (nI (44 + 326 * gn)), .int (nI (49 + 326 * gn))]) (cV E (fun ρ1 => RI r Bt M L X ρ1)) 0 0 (hA E) := by
  refine ent (own := RX7) (by decide) rfl (Nat.le_of_ble_eq_true rfl) ?_
  intro p e s m below meth c ls B hr hlk hl hP hS
  have hx := B.1.1
  have hb := B.1.2.1
  have hown := B.1.2.2.2.1
  have hts := B.1.2.2.2.2
  have hl : lv_has ls 5 [(0, .ref (E.2.1 + 1076)), (1, .int (nI (45 + 326 * gn))), (2, .int (nI (46 + 326 * gn))), (3, .int (nI (44 + 326 * gn))), (4, .int (nI (49 + 326 * gn)))] := hl
  refine lv_aload_n hx hb dX7_mapsBecome_0 rfl (lv_at hl 0 rfl) ?_
  refine get7 B hP (show hk 1076 = 7 by decide +kernel) 3 (by decide) mw_1030 rfl dX7_mapsBecome_1 ?_
  refine lv_iload_n hx hb dX7_mapsBecome_4 rfl (lv_at hl 1 rfl) ?_
  refine aldn (n := 695) (j := (45 + 326 * gn)) B hP (show hk 1078 = 8 by decide +kernel) (show hlen 1078 = 695 by decide +kernel) rfl (by omega) (by decide) dX7_mapsBecome_5 ?_
  have i28 : iR (ρ 1078 (45 + 326 * gn)) (0) (8388607) := g_next (n0 := gn) (j := (45 + 326 * gn)) hI (by omega) (by omega)
  obtain ⟨j29, lj29, uj29, ej29⟩ := iR_nat (a := 0) (b := 8388607) i28
  refine lv_topi (fun z30 ez30 => ?_)
  obtain rfl : z30 = nI j29 := ez30.trans ej29
  refine lv_if_eq (tgt := 102) hx hb dX7_mapsBecome_6 (by decide) (fun c31 => ?_) (fun c31 => ?_)
  · skip
    have n32 := (nI_eq (a := j29) (b := 0) (by omega) (by omega)).mp (show (nI j29 = nI 0) from c31)
    exact ret_v B hr hlk hP hS dX7_mapsBecome_102 (hI)
  · skip
    have n33 := mt (nI_eq (a := j29) (b := 0) (by omega) (by omega)).mpr (show ¬ (nI j29 = nI 0) from c31)
    refine lv_aload_n hx hb dX7_mapsBecome_9 rfl (lv_at hl 0 rfl) ?_
    refine get7 B hP (show hk 1076 = 7 by decide +kernel) 3 (by decide) mw_1030 rfl dX7_mapsBecome_10 ?_
    refine lv_iload_n hx hb dX7_mapsBecome_13 rfl (lv_at hl 2 rfl) ?_
    refine aldn (n := 695) (j := (46 + 326 * gn)) B hP (show hk 1078 = 8 by decide +kernel) (show hlen 1078 = 695 by decide +kernel) rfl (by omega) (by decide) dX7_mapsBecome_14 ?_
    refine lv_aload_n hx hb dX7_mapsBecome_15 rfl (lv_at hl 0 rfl) ?_
    refine get7 B hP (show hk 1076 = 7 by decide +kernel) 3 (by decide) mw_1030 rfl dX7_mapsBecome_16 ?_
    refine lv_bipush (v := 7) hx hb dX7_mapsBecome_19 (by decide) ?_
    refine aldn (n := 695) (j := 7) B hP (show hk 1078 = 8 by decide +kernel) (show hlen 1078 = 695 by decide +kernel) rfl (by omega) (by decide) dX7_mapsBecome_21 ?_
    have i34 : iR (ρ 1078 7) (0) (1000000) := (iR_w (g_time hI) (by omega) (by omega))
    obtain ⟨j35, lj35, uj35, ej35⟩ := iR_nat (a := 0) (b := 1000000) i34
    refine lv_topi (fun z36 ez36 => ?_)
    obtain rfl : z36 = nI j35 := ez36.trans ej35
    refine lv_icmp_gt (tgt := 102) hx hb dX7_mapsBecome_22 (by decide) (fun c37 => ?_) (fun c37 => ?_)
    · skip
      have i38 : iR (ρ 1078 (46 + 326 * gn)) (1) (2147483647) := (iR_ltR (nI_iR (j := j35) (a := 0) (b := 1000000) (by omega) (by omega) (by omega)) (iR_any (ρ 1078 (46 + 326 * gn))) c37 (by decide))
      exact ret_v B hr hlk hP hS dX7_mapsBecome_102 (hI)
    · skip
      have i39 : iR (ρ 1078 (46 + 326 * gn)) (-2147483648) (1000000) := (iR_geR (nI_iR (j := j35) (a := 0) (b := 1000000) (by omega) (by omega) (by omega)) (iR_any (ρ 1078 (46 + 326 * gn))) c37 (by decide))
      refine lv_aload_n hx hb dX7_mapsBecome_25 rfl (lv_at hl 0 rfl) ?_
      refine get7 B hP (show hk 1076 = 7 by decide +kernel) 3 (by decide) mw_1030 rfl dX7_mapsBecome_26 ?_
      refine lv_sipush (v := 694) hx hb dX7_mapsBecome_29 (by decide) ?_
      refine lv_dup2_11 hx hb dX7_mapsBecome_32 rfl rfl ?_
      refine aldn (n := 695) (j := 694) B hP (show hk 1078 = 8 by decide +kernel) (show hlen 1078 = 695 by decide +kernel) rfl (by omega) (by decide) dX7_mapsBecome_33 ?_
      refine lv_iload hx hb dX7_mapsBecome_34 (lv_at hl 4 rfl) ?_
      refine lv_iload_n hx hb dX7_mapsBecome_36 rfl (lv_at hl 3 rfl) ?_
      refine lv_icmp_ne (tgt := 44) hx hb dX7_mapsBecome_37 (by decide) (fun _ => ?_) (fun c40 => absurd ((nI_eq (a := (49 + 326 * gn)) (b := (44 + 326 * gn)) (by omega) (by omega)).mp c40) (by omega))
      refine lv_iconst (v := 1) hx hb dX7_mapsBecome_44 (by decide) ?_
      refine lv_iadd hx hb dX7_mapsBecome_45 ?_
      refine astn (n := 695) (j := 694) B hP hS (show hk 1078 = 8 by decide +kernel) (show hlen 1078 = 695 by decide +kernel) rfl (by omega) (by decide) dX7_mapsBecome_46 (fun H locs hP hS => ?_)
      obtain ⟨ρ41, e42⟩ : ∃ z, z = up ρ 1078 694 ((ρ 1078 694) + 1) := ⟨_, rfl⟩
      rw [← e42] at hP
      have hI : RI r Bt M L X ρ41 := by rw [e42]; exact RI_up hI (ok_last rfl)
      refine lv_aload_n hx hb dX7_mapsBecome_47 rfl (lv_at hl 0 rfl) ?_
      refine get7 B hP (show hk 1076 = 7 by decide +kernel) 3 (by decide) mw_1030 rfl dX7_mapsBecome_48 ?_
      refine lv_iload hx hb dX7_mapsBecome_51 (lv_at hl 4 rfl) ?_
      refine lv_iload hx hb dX7_mapsBecome_53 (lv_at hl 4 rfl) ?_
      refine lv_iload_n hx hb dX7_mapsBecome_55 rfl (lv_at hl 3 rfl) ?_
      refine lv_icmp_ne (tgt := 69) hx hb dX7_mapsBecome_56 (by decide) (fun _ => ?_) (fun c43 => absurd ((nI_eq (a := (49 + 326 * gn)) (b := (44 + 326 * gn)) (by omega) (by omega)).mp c43) (by omega))
      refine lv_aload_n hx hb dX7_mapsBecome_69 rfl (lv_at hl 0 rfl) ?_
      refine get7 B hP (show hk 1076 = 7 by decide +kernel) 3 (by decide) mw_1030 rfl dX7_mapsBecome_70 ?_
      refine lv_iload_n hx hb dX7_mapsBecome_73 rfl (lv_at hl 3 rfl) ?_
      refine aldn (n := 695) (j := (44 + 326 * gn)) B hP (show hk 1078 = 8 by decide +kernel) (show hlen 1078 = 695 by decide +kernel) rfl (by omega) (by decide) dX7_mapsBecome_74 ?_
      have i44 : iR (ρ41 1078 (44 + 326 * gn)) (1) (8388607) := g_map (n0 := gn) (j := (44 + 326 * gn)) hI (by omega) hm (by omega)
      obtain ⟨j45, lj45, uj45, ej45⟩ := iR_nat (a := 1) (b := 8388607) i44
      refine lv_topi (fun z46 ez46 => ?_)
      obtain rfl : z46 = nI j45 := ez46.trans ej45
      refine astn (n := 695) (j := (49 + 326 * gn)) B hP hS (show hk 1078 = 8 by decide +kernel) (show hlen 1078 = 695 by decide +kernel) rfl (by omega) (by decide) dX7_mapsBecome_75 (fun H locs hP hS => ?_)
      obtain ⟨ρ47, e48⟩ : ∃ z, z = up ρ41 1078 (49 + 326 * gn) (nI j45) := ⟨_, rfl⟩
      rw [← e48] at hP
      have hI : RI r Bt M L X ρ47 := by rw [e48]; exact RI_up hI (ok_mapahead (n0 := gn) (j := (49 + 326 * gn)) (by omega) (iR_w (a := 1) (b := 8388607) (nI_iR (j := j45) (a := 1) (b := 8388607) (by omega) (by omega) (by omega)) (by decide) (by decide)) (by omega))
      refine lv_aload_n hx hb dX7_mapsBecome_76 rfl (lv_at hl 0 rfl) ?_
      refine get7 B hP (show hk 1076 = 7 by decide +kernel) 3 (by decide) mw_1030 rfl dX7_mapsBecome_77 ?_
      refine lv_iload_n hx hb dX7_mapsBecome_80 rfl (lv_at hl 3 rfl) ?_
      refine lv_aload_n hx hb dX7_mapsBecome_81 rfl (lv_at hl 0 rfl) ?_
      refine get7 B hP (show hk 1076 = 7 by decide +kernel) 3 (by decide) mw_1030 rfl dX7_mapsBecome_82 ?_
      refine lv_iload_n hx hb dX7_mapsBecome_85 rfl (lv_at hl 1 rfl) ?_
      refine aldf (n := 695) (j := (45 + 326 * gn)) (v := (nI j29)) B hP (show hk 1078 = 8 by decide +kernel) (show hlen 1078 = 695 by decide +kernel) rfl (by omega) (by decide) (by rw [e48]; exact up_get_ne (Or.inr (by omega)) (by rw [e42]; exact up_get_ne (Or.inr (by omega)) ej29)) dX7_mapsBecome_86 ?_
      refine astn (n := 695) (j := (44 + 326 * gn)) B hP hS (show hk 1078 = 8 by decide +kernel) (show hlen 1078 = 695 by decide +kernel) rfl (by omega) (by decide) dX7_mapsBecome_87 (fun H locs hP hS => ?_)
      obtain ⟨ρ49, e50⟩ : ∃ z, z = up ρ47 1078 (44 + 326 * gn) (nI j29) := ⟨_, rfl⟩
      rw [← e50] at hP
      have hI : RI r Bt M L X ρ49 := by rw [e50]; exact RI_up hI (ok_map (n0 := gn) (j := (44 + 326 * gn)) (by omega) (iR_w (a := 1) (b := 8388607) (nI_iR (j := j29) (a := 1) (b := 8388607) (by omega) (by omega) (by omega)) (by decide) (by decide)) (by omega))
      refine lv_aload_n hx hb dX7_mapsBecome_88 rfl (lv_at hl 0 rfl) ?_
      refine get7 B hP (show hk 1076 = 7 by decide +kernel) 3 (by decide) mw_1030 rfl dX7_mapsBecome_89 ?_
      refine lv_iload_n hx hb dX7_mapsBecome_92 rfl (lv_at hl 1 rfl) ?_
      refine lv_iconst (v := 0) hx hb dX7_mapsBecome_93 (by decide) ?_
      refine astn (n := 695) (j := (45 + 326 * gn)) B hP hS (show hk 1078 = 8 by decide +kernel) (show hlen 1078 = 695 by decide +kernel) rfl (by omega) (by decide) dX7_mapsBecome_94 (fun H locs hP hS => ?_)
      obtain ⟨ρ51, e52⟩ : ∃ z, z = up ρ49 1078 (45 + 326 * gn) 0 := ⟨_, rfl⟩
      rw [← e52] at hP
      have hI : RI r Bt M L X ρ51 := by rw [e52]; exact RI_up hI (ok_next (n0 := gn) (j := (45 + 326 * gn)) (by omega) (iR_w (a := 0) (b := 0) (show iR 0 (0) (0) from ⟨by decide, by decide⟩) (by decide) (by decide)) (by omega))
      refine lv_aload_n hx hb dX7_mapsBecome_95 rfl (lv_at hl 0 rfl) ?_
      refine get7 B hP (show hk 1076 = 7 by decide +kernel) 3 (by decide) mw_1030 rfl dX7_mapsBecome_96 ?_
      refine lv_iload_n hx hb dX7_mapsBecome_99 rfl (lv_at hl 2 rfl) ?_
      refine lv_iconst (v := 0) hx hb dX7_mapsBecome_100 (by decide) ?_
      refine astn (n := 695) (j := (46 + 326 * gn)) B hP hS (show hk 1078 = 8 by decide +kernel) (show hlen 1078 = 695 by decide +kernel) rfl (by omega) (by decide) dX7_mapsBecome_101 (fun H locs hP hS => ?_)
      obtain ⟨ρ53, e54⟩ : ∃ z, z = up ρ51 1078 (46 + 326 * gn) 0 := ⟨_, rfl⟩
      rw [← e54] at hP
      have hI : RI r Bt M L X ρ53 := by rw [e54]; exact RI_up hI (ok_net (n0 := gn) (j := (46 + 326 * gn)) 4 (by omega) (by omega) (by omega))
      exact ret_v B hr hlk hP hS dX7_mapsBecome_102 (hI)

set_option maxHeartbeats 4000000 in
set_option maxRecDepth 100000 in
theorem d_X7_mapsBecomeL (l : Launch) (E : hE) (ρ r : Nat → Nat → Int32) (Bt : Nat) (hBt : Bt ≤ 1000000) (M : Nat → Int32) (L : Nat → Nat) (X : Nat × Nat → Prop) (gn : Nat) (ugn : gn ≤ 1) (gl : Nat) (ugl : gl ≤ 3) (hI : RI r Bt M L X ρ) (hlt : gl + 1 ≤ L gn) : Met l yX7_mapsBecome (.code yX7_mapsBecome cX7_mapsBecome 5 none :: gw_all) (rmk 1 40) (cPre E ρ [.ref (E.2.1 + 1076), .int (nI (106 + 326 * gn + 66 * gl)), .int (nI (107 + 326 * gn + 66 * gl)), .int (nI (105 + 326 * gn + 66 * gl)), .int (nI (105 + 326 * gn + 66 * gl))]) (cV E (fun ρ1 => RI r Bt M L X ρ1)) 0 0 (hA E) := by
  refine ent (own := RX7) (by decide) rfl (Nat.le_of_ble_eq_true rfl) ?_
  intro p e s m below meth c ls B hr hlk hl hP hS
  have hx := B.1.1
  have hb := B.1.2.1
  have hown := B.1.2.2.2.1
  have hts := B.1.2.2.2.2
  have hl : lv_has ls 5 [(0, .ref (E.2.1 + 1076)), (1, .int (nI (106 + 326 * gn + 66 * gl))), (2, .int (nI (107 + 326 * gn + 66 * gl))), (3, .int (nI (105 + 326 * gn + 66 * gl))), (4, .int (nI (105 + 326 * gn + 66 * gl)))] := hl
  refine lv_aload_n hx hb dX7_mapsBecome_0 rfl (lv_at hl 0 rfl) ?_
  refine get7 B hP (show hk 1076 = 7 by decide +kernel) 3 (by decide) mw_1030 rfl dX7_mapsBecome_1 ?_
  refine lv_iload_n hx hb dX7_mapsBecome_4 rfl (lv_at hl 1 rfl) ?_
  refine aldn (n := 695) (j := (106 + 326 * gn + 66 * gl)) B hP (show hk 1078 = 8 by decide +kernel) (show hlen 1078 = 695 by decide +kernel) rfl (by omega) (by decide) dX7_mapsBecome_5 ?_
  have i28 : iR (ρ 1078 (106 + 326 * gn + 66 * gl)) (0) (8388607) := g_itsnext (n0 := gn) (l0 := gl) (j := (106 + 326 * gn + 66 * gl)) hI (by omega) (by omega) (by omega)
  obtain ⟨j29, lj29, uj29, ej29⟩ := iR_nat (a := 0) (b := 8388607) i28
  refine lv_topi (fun z30 ez30 => ?_)
  obtain rfl : z30 = nI j29 := ez30.trans ej29
  refine lv_if_eq (tgt := 102) hx hb dX7_mapsBecome_6 (by decide) (fun c31 => ?_) (fun c31 => ?_)
  · skip
    have n32 := (nI_eq (a := j29) (b := 0) (by omega) (by omega)).mp (show (nI j29 = nI 0) from c31)
    exact ret_v B hr hlk hP hS dX7_mapsBecome_102 (hI)
  · skip
    have n33 := mt (nI_eq (a := j29) (b := 0) (by omega) (by omega)).mpr (show ¬ (nI j29 = nI 0) from c31)
    refine lv_aload_n hx hb dX7_mapsBecome_9 rfl (lv_at hl 0 rfl) ?_
    refine get7 B hP (show hk 1076 = 7 by decide +kernel) 3 (by decide) mw_1030 rfl dX7_mapsBecome_10 ?_
    refine lv_iload_n hx hb dX7_mapsBecome_13 rfl (lv_at hl 2 rfl) ?_
    refine aldn (n := 695) (j := (107 + 326 * gn + 66 * gl)) B hP (show hk 1078 = 8 by decide +kernel) (show hlen 1078 = 695 by decide +kernel) rfl (by omega) (by decide) dX7_mapsBecome_14 ?_
    refine lv_aload_n hx hb dX7_mapsBecome_15 rfl (lv_at hl 0 rfl) ?_
    refine get7 B hP (show hk 1076 = 7 by decide +kernel) 3 (by decide) mw_1030 rfl dX7_mapsBecome_16 ?_
    refine lv_bipush (v := 7) hx hb dX7_mapsBecome_19 (by decide) ?_
    refine aldn (n := 695) (j := 7) B hP (show hk 1078 = 8 by decide +kernel) (show hlen 1078 = 695 by decide +kernel) rfl (by omega) (by decide) dX7_mapsBecome_21 ?_
    have i34 : iR (ρ 1078 7) (0) (1000000) := (iR_w (g_time hI) (by omega) (by omega))
    obtain ⟨j35, lj35, uj35, ej35⟩ := iR_nat (a := 0) (b := 1000000) i34
    refine lv_topi (fun z36 ez36 => ?_)
    obtain rfl : z36 = nI j35 := ez36.trans ej35
    refine lv_icmp_gt (tgt := 102) hx hb dX7_mapsBecome_22 (by decide) (fun c37 => ?_) (fun c37 => ?_)
    · skip
      have i38 : iR (ρ 1078 (107 + 326 * gn + 66 * gl)) (1) (2147483647) := (iR_ltR (nI_iR (j := j35) (a := 0) (b := 1000000) (by omega) (by omega) (by omega)) (iR_any (ρ 1078 (107 + 326 * gn + 66 * gl))) c37 (by decide))
      exact ret_v B hr hlk hP hS dX7_mapsBecome_102 (hI)
    · skip
      have i39 : iR (ρ 1078 (107 + 326 * gn + 66 * gl)) (-2147483648) (1000000) := (iR_geR (nI_iR (j := j35) (a := 0) (b := 1000000) (by omega) (by omega) (by omega)) (iR_any (ρ 1078 (107 + 326 * gn + 66 * gl))) c37 (by decide))
      refine lv_aload_n hx hb dX7_mapsBecome_25 rfl (lv_at hl 0 rfl) ?_
      refine get7 B hP (show hk 1076 = 7 by decide +kernel) 3 (by decide) mw_1030 rfl dX7_mapsBecome_26 ?_
      refine lv_sipush (v := 694) hx hb dX7_mapsBecome_29 (by decide) ?_
      refine lv_dup2_11 hx hb dX7_mapsBecome_32 rfl rfl ?_
      refine aldn (n := 695) (j := 694) B hP (show hk 1078 = 8 by decide +kernel) (show hlen 1078 = 695 by decide +kernel) rfl (by omega) (by decide) dX7_mapsBecome_33 ?_
      refine lv_iload hx hb dX7_mapsBecome_34 (lv_at hl 4 rfl) ?_
      refine lv_iload_n hx hb dX7_mapsBecome_36 rfl (lv_at hl 3 rfl) ?_
      refine lv_icmp_ne (tgt := 44) hx hb dX7_mapsBecome_37 (by decide) (fun c40 => absurd rfl c40) (fun _ => ?_)
      refine lv_iconst (v := 0) hx hb dX7_mapsBecome_40 (by decide) ?_
      refine lv_goto (tgt := 45) hx hb dX7_mapsBecome_41 (by decide) ?_
      refine lv_iadd hx hb dX7_mapsBecome_45 ?_
      refine astn (n := 695) (j := 694) B hP hS (show hk 1078 = 8 by decide +kernel) (show hlen 1078 = 695 by decide +kernel) rfl (by omega) (by decide) dX7_mapsBecome_46 (fun H locs hP hS => ?_)
      obtain ⟨ρ41, e42⟩ : ∃ z, z = up ρ 1078 694 ((ρ 1078 694) + 0) := ⟨_, rfl⟩
      rw [← e42] at hP
      have hI : RI r Bt M L X ρ41 := by rw [e42]; exact RI_up hI (ok_last rfl)
      refine lv_aload_n hx hb dX7_mapsBecome_47 rfl (lv_at hl 0 rfl) ?_
      refine get7 B hP (show hk 1076 = 7 by decide +kernel) 3 (by decide) mw_1030 rfl dX7_mapsBecome_48 ?_
      refine lv_iload hx hb dX7_mapsBecome_51 (lv_at hl 4 rfl) ?_
      refine lv_iload hx hb dX7_mapsBecome_53 (lv_at hl 4 rfl) ?_
      refine lv_iload_n hx hb dX7_mapsBecome_55 rfl (lv_at hl 3 rfl) ?_
      refine lv_icmp_ne (tgt := 69) hx hb dX7_mapsBecome_56 (by decide) (fun c43 => absurd rfl c43) (fun _ => ?_)
      refine lv_aload_n hx hb dX7_mapsBecome_59 rfl (lv_at hl 0 rfl) ?_
      refine get7 B hP (show hk 1076 = 7 by decide +kernel) 3 (by decide) mw_1030 rfl dX7_mapsBecome_60 ?_
      refine lv_iload hx hb dX7_mapsBecome_63 (lv_at hl 4 rfl) ?_
      refine aldn (n := 695) (j := (105 + 326 * gn + 66 * gl)) B hP (show hk 1078 = 8 by decide +kernel) (show hlen 1078 = 695 by decide +kernel) rfl (by omega) (by decide) dX7_mapsBecome_65 ?_
      have i44 : iR (ρ41 1078 (105 + 326 * gn + 66 * gl)) (1) (8388607) := g_itsmap (n0 := gn) (l0 := gl) (j := (105 + 326 * gn + 66 * gl)) hI (by omega) (by omega) (by omega)
      obtain ⟨j45, lj45, uj45, ej45⟩ := iR_nat (a := 1) (b := 8388607) i44
      refine lv_topi (fun z46 ez46 => ?_)
      obtain rfl : z46 = nI j45 := ez46.trans ej45
      refine lv_goto (tgt := 75) hx hb dX7_mapsBecome_66 (by decide) ?_
      refine astn (n := 695) (j := (105 + 326 * gn + 66 * gl)) B hP hS (show hk 1078 = 8 by decide +kernel) (show hlen 1078 = 695 by decide +kernel) rfl (by omega) (by decide) dX7_mapsBecome_75 (fun H locs hP hS => ?_)
      obtain ⟨ρ47, e48⟩ : ∃ z, z = up ρ41 1078 (105 + 326 * gn + 66 * gl) (nI j45) := ⟨_, rfl⟩
      rw [← e48] at hP
      have hI : RI r Bt M L X ρ47 := by rw [e48]; exact RI_up hI (ok_itsmap (n0 := gn) (l0 := gl) (j := (105 + 326 * gn + 66 * gl)) (by omega) (by omega) (iR_w (a := 1) (b := 8388607) (nI_iR (j := j45) (a := 1) (b := 8388607) (by omega) (by omega) (by omega)) (by decide) (by decide)) (by omega))
      refine lv_aload_n hx hb dX7_mapsBecome_76 rfl (lv_at hl 0 rfl) ?_
      refine get7 B hP (show hk 1076 = 7 by decide +kernel) 3 (by decide) mw_1030 rfl dX7_mapsBecome_77 ?_
      refine lv_iload_n hx hb dX7_mapsBecome_80 rfl (lv_at hl 3 rfl) ?_
      refine lv_aload_n hx hb dX7_mapsBecome_81 rfl (lv_at hl 0 rfl) ?_
      refine get7 B hP (show hk 1076 = 7 by decide +kernel) 3 (by decide) mw_1030 rfl dX7_mapsBecome_82 ?_
      refine lv_iload_n hx hb dX7_mapsBecome_85 rfl (lv_at hl 1 rfl) ?_
      refine aldf (n := 695) (j := (106 + 326 * gn + 66 * gl)) (v := (nI j29)) B hP (show hk 1078 = 8 by decide +kernel) (show hlen 1078 = 695 by decide +kernel) rfl (by omega) (by decide) (by rw [e48]; exact up_get_ne (Or.inr (by omega)) (by rw [e42]; exact up_get_ne (Or.inr (by omega)) ej29)) dX7_mapsBecome_86 ?_
      refine astn (n := 695) (j := (105 + 326 * gn + 66 * gl)) B hP hS (show hk 1078 = 8 by decide +kernel) (show hlen 1078 = 695 by decide +kernel) rfl (by omega) (by decide) dX7_mapsBecome_87 (fun H locs hP hS => ?_)
      obtain ⟨ρ49, e50⟩ : ∃ z, z = up ρ47 1078 (105 + 326 * gn + 66 * gl) (nI j29) := ⟨_, rfl⟩
      rw [← e50] at hP
      have hI : RI r Bt M L X ρ49 := by rw [e50]; exact RI_up hI (ok_itsmap (n0 := gn) (l0 := gl) (j := (105 + 326 * gn + 66 * gl)) (by omega) (by omega) (iR_w (a := 1) (b := 8388607) (nI_iR (j := j29) (a := 1) (b := 8388607) (by omega) (by omega) (by omega)) (by decide) (by decide)) (by omega))
      refine lv_aload_n hx hb dX7_mapsBecome_88 rfl (lv_at hl 0 rfl) ?_
      refine get7 B hP (show hk 1076 = 7 by decide +kernel) 3 (by decide) mw_1030 rfl dX7_mapsBecome_89 ?_
      refine lv_iload_n hx hb dX7_mapsBecome_92 rfl (lv_at hl 1 rfl) ?_
      refine lv_iconst (v := 0) hx hb dX7_mapsBecome_93 (by decide) ?_
      refine astn (n := 695) (j := (106 + 326 * gn + 66 * gl)) B hP hS (show hk 1078 = 8 by decide +kernel) (show hlen 1078 = 695 by decide +kernel) rfl (by omega) (by decide) dX7_mapsBecome_94 (fun H locs hP hS => ?_)
      obtain ⟨ρ51, e52⟩ : ∃ z, z = up ρ49 1078 (106 + 326 * gn + 66 * gl) 0 := ⟨_, rfl⟩
      rw [← e52] at hP
      have hI : RI r Bt M L X ρ51 := by rw [e52]; exact RI_up hI (ok_itsnext (n0 := gn) (l0 := gl) (j := (106 + 326 * gn + 66 * gl)) (by omega) (by omega) (iR_w (a := 0) (b := 0) (show iR 0 (0) (0) from ⟨by decide, by decide⟩) (by decide) (by decide)) (by omega))
      refine lv_aload_n hx hb dX7_mapsBecome_95 rfl (lv_at hl 0 rfl) ?_
      refine get7 B hP (show hk 1076 = 7 by decide +kernel) 3 (by decide) mw_1030 rfl dX7_mapsBecome_96 ?_
      refine lv_iload_n hx hb dX7_mapsBecome_99 rfl (lv_at hl 2 rfl) ?_
      refine lv_iconst (v := 0) hx hb dX7_mapsBecome_100 (by decide) ?_
      refine astn (n := 695) (j := (107 + 326 * gn + 66 * gl)) B hP hS (show hk 1078 = 8 by decide +kernel) (show hlen 1078 = 695 by decide +kernel) rfl (by omega) (by decide) dX7_mapsBecome_101 (fun H locs hP hS => ?_)
      obtain ⟨ρ53, e54⟩ : ∃ z, z = up ρ51 1078 (107 + 326 * gn + 66 * gl) 0 := ⟨_, rfl⟩
      rw [← e54] at hP
      have hI : RI r Bt M L X ρ53 := by rw [e54]; exact RI_up hI (ok_link (n0 := gn) (l0 := gl) (j := (107 + 326 * gn + 66 * gl)) 3 (by omega) (by omega) (by omega) (by omega))
      exact ret_v B hr hlk hP hS dX7_mapsBecome_102 (hI)

set_option maxHeartbeats 4000000 in
set_option maxRecDepth 100000 in
theorem d_X7_framesCome (l : Launch) (E : hE) (ρ r : Nat → Nat → Int32) (Bt : Nat) (hBt : Bt ≤ 1000000) (M : Nat → Int32) (L : Nat → Nat) (X : Nat × Nat → Prop) (gn : Nat) (ugn : gn ≤ 1) (gl : Nat) (ugl : gl ≤ 3) (hI : RI r Bt M L X ρ) : Met l yX7_framesCome (.code yX7_framesCome cX7_framesCome 2 none :: gw_all) (rmk 1 40) (cPre E ρ [.ref (E.2.1 + 1076), .int (nI (104 + 326 * gn + 66 * gl))]) (cV E (fun ρ1 => RI r Bt M L X ρ1)) 0 0 (hA E) := by
  refine ent (own := RX7) (by decide) rfl (Nat.le_of_ble_eq_true rfl) ?_
  intro p e s m below meth c ls B hr hlk hl hP hS
  have hx := B.1.1
  have hb := B.1.2.1
  have hown := B.1.2.2.2.1
  have hts := B.1.2.2.2.2
  have hl : lv_has ls 2 [(0, .ref (E.2.1 + 1076)), (1, .int (nI (104 + 326 * gn + 66 * gl)))] := hl
  refine lv_aload_n hx hb dX7_framesCome_0 rfl (lv_at hl 0 rfl) ?_
  refine get7 B hP (show hk 1076 = 7 by decide +kernel) 3 (by decide) mw_1030 rfl dX7_framesCome_1 ?_
  refine lv_iload_n hx hb dX7_framesCome_4 rfl (lv_at hl 1 rfl) ?_
  refine lv_bipush (v := 31) hx hb dX7_framesCome_5 (by decide) ?_
  refine lv_iadd hx hb dX7_framesCome_7 ?_
  refine lv_topi (fun z15 ez15 => ?_)
  obtain rfl : z15 = (nI (135 + 326 * gn + 66 * gl)) := ez15.trans (by rw [show (nI (104 + 326 * gn + 66 * gl)) = nI (104 + 326 * gn + 66 * gl) from rfl, show 31 = nI 31 from rfl, nI_add] <;> exact congrArg nI (by omega))
  refine aldn (n := 695) (j := (135 + 326 * gn + 66 * gl)) B hP (show hk 1078 = 8 by decide +kernel) (show hlen 1078 = 695 by decide +kernel) rfl (by omega) (by decide) dX7_framesCome_8 ?_
  refine lv_if_le (tgt := 59) hx hb dX7_framesCome_9 (by decide) (fun c16 => ?_) (fun c16 => ?_)
  · skip
    have i17 : iR (ρ 1078 (135 + 326 * gn + 66 * gl)) (-2147483648) (0) := (iR_geR (show iR 0 (0) (0) from ⟨by decide, by decide⟩) (iR_any (ρ 1078 (135 + 326 * gn + 66 * gl))) (Int32.not_lt.mpr c16) (by decide))
    exact ret_v B hr hlk hP hS dX7_framesCome_59 (hI)
  · skip
    have i18 : iR (ρ 1078 (135 + 326 * gn + 66 * gl)) (1) (2147483647) := (iR_ltR (show iR 0 (0) (0) from ⟨by decide, by decide⟩) (iR_any (ρ 1078 (135 + 326 * gn + 66 * gl))) (Int32.not_le.mp c16) (by decide))
    refine lv_aload_n hx hb dX7_framesCome_12 rfl (lv_at hl 0 rfl) ?_
    refine get7 B hP (show hk 1076 = 7 by decide +kernel) 3 (by decide) mw_1030 rfl dX7_framesCome_13 ?_
    refine lv_bipush (v := 7) hx hb dX7_framesCome_16 (by decide) ?_
    refine aldn (n := 695) (j := 7) B hP (show hk 1078 = 8 by decide +kernel) (show hlen 1078 = 695 by decide +kernel) rfl (by omega) (by decide) dX7_framesCome_18 ?_
    have i19 : iR (ρ 1078 7) (0) (1000000) := (iR_w (g_time hI) (by omega) (by omega))
    obtain ⟨j20, lj20, uj20, ej20⟩ := iR_nat (a := 0) (b := 1000000) i19
    refine lv_topi (fun z21 ez21 => ?_)
    obtain rfl : z21 = nI j20 := ez21.trans ej20
    refine lv_aload_n hx hb dX7_framesCome_19 rfl (lv_at hl 0 rfl) ?_
    refine get7 B hP (show hk 1076 = 7 by decide +kernel) 3 (by decide) mw_1030 rfl dX7_framesCome_20 ?_
    refine lv_iload_n hx hb dX7_framesCome_23 rfl (lv_at hl 1 rfl) ?_
    refine lv_bipush (v := 31) hx hb dX7_framesCome_24 (by decide) ?_
    refine lv_iadd hx hb dX7_framesCome_26 ?_
    refine lv_topi (fun z22 ez22 => ?_)
    obtain rfl : z22 = (nI (135 + 326 * gn + 66 * gl)) := ez22.trans (by rw [show (nI (104 + 326 * gn + 66 * gl)) = nI (104 + 326 * gn + 66 * gl) from rfl, show 31 = nI 31 from rfl, nI_add] <;> exact congrArg nI (by omega))
    refine aldf (n := 695) (j := (135 + 326 * gn + 66 * gl)) (v := (ρ 1078 (135 + 326 * gn + 66 * gl))) B hP (show hk 1078 = 8 by decide +kernel) (show hlen 1078 = 695 by decide +kernel) rfl (by omega) (by decide) rfl dX7_framesCome_27 ?_
    refine lv_irem hx hb dX7_framesCome_28 (iR_ne i18 (show iR 0 0 0 from ⟨by decide, by decide⟩) (by decide)) ?_
    refine lv_aload_n hx hb dX7_framesCome_29 rfl (lv_at hl 0 rfl) ?_
    refine get7 B hP (show hk 1076 = 7 by decide +kernel) 3 (by decide) mw_1030 rfl dX7_framesCome_30 ?_
    refine lv_iload_n hx hb dX7_framesCome_33 rfl (lv_at hl 1 rfl) ?_
    refine lv_bipush (v := 32) hx hb dX7_framesCome_34 (by decide) ?_
    refine lv_iadd hx hb dX7_framesCome_36 ?_
    refine lv_topi (fun z23 ez23 => ?_)
    obtain rfl : z23 = (nI (136 + 326 * gn + 66 * gl)) := ez23.trans (by rw [show (nI (104 + 326 * gn + 66 * gl)) = nI (104 + 326 * gn + 66 * gl) from rfl, show 32 = nI 32 from rfl, nI_add] <;> exact congrArg nI (by omega))
    refine aldn (n := 695) (j := (136 + 326 * gn + 66 * gl)) B hP (show hk 1078 = 8 by decide +kernel) (show hlen 1078 = 695 by decide +kernel) rfl (by omega) (by decide) dX7_framesCome_37 ?_
    refine lv_icmp_ne (tgt := 59) hx hb dX7_framesCome_38 (by decide) (fun c24 => ?_) (fun c24 => ?_)
    · skip
      exact ret_v B hr hlk hP hS dX7_framesCome_59 (hI)
    · skip
      refine lv_aload_n hx hb dX7_framesCome_41 rfl (lv_at hl 0 rfl) ?_
      refine get7 B hP (show hk 1076 = 7 by decide +kernel) 3 (by decide) mw_1030 rfl dX7_framesCome_42 ?_
      refine lv_iload_n hx hb dX7_framesCome_45 rfl (lv_at hl 1 rfl) ?_
      refine lv_bipush (v := 36) hx hb dX7_framesCome_46 (by decide) ?_
      refine lv_iadd hx hb dX7_framesCome_48 ?_
      refine lv_topi (fun z25 ez25 => ?_)
      obtain rfl : z25 = (nI (140 + 326 * gn + 66 * gl)) := ez25.trans (by rw [show (nI (104 + 326 * gn + 66 * gl)) = nI (104 + 326 * gn + 66 * gl) from rfl, show 36 = nI 36 from rfl, nI_add] <;> exact congrArg nI (by omega))
      refine lv_aload_n hx hb dX7_framesCome_49 rfl (lv_at hl 0 rfl) ?_
      refine get7 B hP (show hk 1076 = 7 by decide +kernel) 3 (by decide) mw_1030 rfl dX7_framesCome_50 ?_
      refine lv_iload_n hx hb dX7_framesCome_53 rfl (lv_at hl 1 rfl) ?_
      refine lv_bipush (v := 33) hx hb dX7_framesCome_54 (by decide) ?_
      refine lv_iadd hx hb dX7_framesCome_56 ?_
      refine lv_topi (fun z26 ez26 => ?_)
      obtain rfl : z26 = (nI (137 + 326 * gn + 66 * gl)) := ez26.trans (by rw [show (nI (104 + 326 * gn + 66 * gl)) = nI (104 + 326 * gn + 66 * gl) from rfl, show 33 = nI 33 from rfl, nI_add] <;> exact congrArg nI (by omega))
      refine aldn (n := 695) (j := (137 + 326 * gn + 66 * gl)) B hP (show hk 1078 = 8 by decide +kernel) (show hlen 1078 = 695 by decide +kernel) rfl (by omega) (by decide) dX7_framesCome_57 ?_
      refine astn (n := 695) (j := (140 + 326 * gn + 66 * gl)) B hP hS (show hk 1078 = 8 by decide +kernel) (show hlen 1078 = 695 by decide +kernel) rfl (by omega) (by decide) dX7_framesCome_58 (fun H locs hP hS => ?_)
      obtain ⟨ρ27, e28⟩ : ∃ z, z = up ρ 1078 (140 + 326 * gn + 66 * gl) (ρ 1078 (137 + 326 * gn + 66 * gl)) := ⟨_, rfl⟩
      rw [← e28] at hP
      have hI : RI r Bt M L X ρ27 := by rw [e28]; exact RI_up hI (ok_link (n0 := gn) (l0 := gl) (j := (140 + 326 * gn + 66 * gl)) 36 (by omega) (by omega) (by omega) (by omega))
      exact ret_v B hr hlk hP hS dX7_framesCome_59 (hI)

theorem lk_RX7_176 : LkV RX7 176 RX7 yX7_isHere cX7_isHere 4 (some .boolean) 3 := ⟨⟨mw_1281, mw_1283, mw_28, mw_59, mw_1284⟩, by decide +kernel⟩
set_option maxHeartbeats 4000000 in
set_option maxRecDepth 100000 in
theorem d_X7_isReady (l : Launch) (E : hE) (ρ r : Nat → Nat → Int32) (Bt : Nat) (hBt : Bt ≤ 1000000) (M : Nat → Int32) (L : Nat → Nat) (X : Nat × Nat → Prop) (na1 : Nat) (lna1 : 0 ≤ na1) (una1 : na1 ≤ 1) (na2 : Nat) (lna2 : 0 ≤ na2) (una2 : na2 ≤ 3) (a3 : Int32) (hI : RI r Bt M L X ρ) : Met l yX7_isReady (.code yX7_isReady cX7_isReady 5 (some .boolean) :: gw_all) (rmk 5 200) (cPre E ρ [.ref (E.2.1 + 1076), .int (nI na1), .int (nI na2), .int a3]) (cI E (fun v ρ1 => ρ = ρ1 ∧ RI r Bt M L X ρ1 ∧ iR v (0) (1))) 0 0 (hA E) := by
  refine ent (own := RX7) (by decide) rfl (Nat.le_of_ble_eq_true rfl) ?_
  intro p e s m below meth c ls B hr hlk hl hP hS
  have hx := B.1.1
  have hb := B.1.2.1
  have hown := B.1.2.2.2.1
  have hts := B.1.2.2.2.2
  have hl : lv_has ls 5 [(0, .ref (E.2.1 + 1076)), (1, .int (nI na1)), (2, .int (nI na2)), (3, .int a3)] := hl
  refine lv_iload_n hx hb dX7_isReady_0 rfl (lv_at hl 1 rfl) ?_
  refine lv_iload_n hx hb dX7_isReady_1 rfl (lv_at hl 2 rfl) ?_
  refine call_i (cS (av := [.int (nI na1), .int (nI na2)]) (rest := []) B hP hS (d_X7_linkAt l E ρ r Bt hBt M L X na1 (by omega) (by omega) na2 (by omega) (by omega) hI) lk_RX7_82 rfl rfl hl.1 (Nat.le_of_ble_eq_true rfl) ⟨Nat.le_of_ble_eq_true rfl, Nat.le_of_ble_eq_true rfl⟩ ⟨Nat.le_of_ble_eq_true rfl, Nat.le_of_ble_eq_true rfl⟩ dX7_isReady_2) hS (fun r18 ρ19 H locs q20 hP hS => ?_)
  obtain ⟨rfl, hI, q20⟩ := q20
  obtain rfl : r18 = nI (104 + 326 * na1 + 66 * na2) := q20.trans (congrArg nI (by omega))
  refine lv_istore (lv' := [(4, .int (nI (104 + 326 * na1 + 66 * na2))), (0, .ref (E.2.1 + 1076)), (1, .int (nI na1)), (2, .int (nI na2)), (3, .int a3)]) hx hb dX7_isReady_5 hl (by decide) rfl (fun ls hl => ?_)
  refine lv_aload_n hx hb dX7_isReady_7 rfl (lv_at hl 1 rfl) ?_
  refine lv_iload_n hx hb dX7_isReady_8 rfl (lv_at hl 2 rfl) ?_
  refine lv_aload_n hx hb dX7_isReady_9 rfl (lv_at hl 1 rfl) ?_
  refine get7 B hP (show hk 1076 = 7 by decide +kernel) 3 (by decide) mw_1030 rfl dX7_isReady_10 ?_
  refine lv_iload hx hb dX7_isReady_13 (lv_at hl 0 rfl) ?_
  refine aldn (n := 695) (j := (104 + 326 * na1 + 66 * na2)) B hP (show hk 1078 = 8 by decide +kernel) (show hlen 1078 = 695 by decide +kernel) rfl (by omega) (by decide) dX7_isReady_15 ?_
  refine lv_iload_n hx hb dX7_isReady_16 rfl (lv_at hl 4 rfl) ?_
  refine call_i (cVt (k := 1076) (av := [.int (nI na1), .int (ρ 1078 (104 + 326 * na1 + 66 * na2)), .int a3]) (rest := []) B hP hS (d_X7_isHere l E ρ r Bt hBt M L X na1 (by omega) (by omega) (ρ 1078 (104 + 326 * na1 + 66 * na2)) a3 hI) lk_RX7_176 (hrecv (ci := 7) B hP (hk_lt (c := 7) (show hk 1076 = 7 by decide +kernel) (by decide)) (hcc7 _ _ (show hk 1076 = 7 by decide +kernel)) rfl) rfl rfl hl.1 (Nat.le_of_ble_eq_true rfl) ⟨Nat.le_of_ble_eq_true rfl, Nat.le_of_ble_eq_true rfl⟩ ⟨Nat.le_of_ble_eq_true rfl, Nat.le_of_ble_eq_true rfl⟩ dX7_isReady_17) hS (fun r21 ρ22 H locs q23 hP hS => ?_)
  obtain ⟨rfl, hI, q23⟩ := q23
  obtain ⟨j24, lj24, uj24, ej24⟩ := iR_nat (a := 0) (b := 1) q23
  refine lv_topi (fun z25 ez25 => ?_)
  obtain rfl : z25 = nI j24 := ez25.trans ej24
  refine lv_if_eq (tgt := 67) hx hb dX7_isReady_20 (by decide) (fun c26 => ?_) (fun c26 => ?_)
  · skip
    have n27 := (nI_eq (a := j24) (b := 0) (by omega) (by omega)).mp (show (nI j24 = nI 0) from c26)
    refine lv_iconst (v := 0) hx hb dX7_isReady_67 (by decide) ?_
    exact ret_z B hr hlk hP hS dX7_isReady_68 (Or.inl rfl) (⟨rfl, hI, (iR_w (a := 0) (b := 0) (show iR 0 (0) (0) from ⟨by decide, by decide⟩) (by decide) (by decide))⟩)
  · skip
    have n28 := mt (nI_eq (a := j24) (b := 0) (by omega) (by omega)).mpr (show ¬ (nI j24 = nI 0) from c26)
    refine lv_aload_n hx hb dX7_isReady_23 rfl (lv_at hl 1 rfl) ?_
    refine get7 B hP (show hk 1076 = 7 by decide +kernel) 3 (by decide) mw_1030 rfl dX7_isReady_24 ?_
    refine lv_iload hx hb dX7_isReady_27 (lv_at hl 0 rfl) ?_
    refine lv_bipush (v := 40) hx hb dX7_isReady_29 (by decide) ?_
    refine lv_iadd hx hb dX7_isReady_31 ?_
    refine lv_topi (fun z29 ez29 => ?_)
    obtain rfl : z29 = (nI (144 + 326 * na1 + 66 * na2)) := ez29.trans (by rw [show (nI (104 + 326 * na1 + 66 * na2)) = nI (104 + 326 * na1 + 66 * na2) from rfl, show 40 = nI 40 from rfl, nI_add] <;> exact congrArg nI (by omega))
    refine aldn (n := 695) (j := (144 + 326 * na1 + 66 * na2)) B hP (show hk 1078 = 8 by decide +kernel) (show hlen 1078 = 695 by decide +kernel) rfl (by omega) (by decide) dX7_isReady_32 ?_
    refine lv_if_eq (tgt := 63) hx hb dX7_isReady_33 (by decide) (fun c30 => ?_) (fun c30 => ?_)
    · skip
      have i31 : iR (ρ 1078 (144 + 326 * na1 + 66 * na2)) (0) (0) := (by rw [c30]; exact ⟨by decide, by decide⟩)
      refine lv_iconst (v := 1) hx hb dX7_isReady_63 (by decide) ?_
      refine lv_goto (tgt := 68) hx hb dX7_isReady_64 (by decide) ?_
      exact ret_z B hr hlk hP hS dX7_isReady_68 (Or.inr rfl) (⟨rfl, hI, (iR_w (a := 1) (b := 1) (show iR 1 (1) (1) from ⟨by decide, by decide⟩) (by decide) (by decide))⟩)
    · skip
      refine lv_iload_n hx hb dX7_isReady_36 rfl (lv_at hl 4 rfl) ?_
      refine lv_aload_n hx hb dX7_isReady_37 rfl (lv_at hl 1 rfl) ?_
      refine get7 B hP (show hk 1076 = 7 by decide +kernel) 3 (by decide) mw_1030 rfl dX7_isReady_38 ?_
      refine lv_iload hx hb dX7_isReady_41 (lv_at hl 0 rfl) ?_
      refine lv_bipush (v := 40) hx hb dX7_isReady_43 (by decide) ?_
      refine lv_iadd hx hb dX7_isReady_45 ?_
      refine lv_topi (fun z32 ez32 => ?_)
      obtain rfl : z32 = (nI (144 + 326 * na1 + 66 * na2)) := ez32.trans (by rw [show (nI (104 + 326 * na1 + 66 * na2)) = nI (104 + 326 * na1 + 66 * na2) from rfl, show 40 = nI 40 from rfl, nI_add] <;> exact congrArg nI (by omega))
      refine aldf (n := 695) (j := (144 + 326 * na1 + 66 * na2)) (v := (ρ 1078 (144 + 326 * na1 + 66 * na2))) B hP (show hk 1078 = 8 by decide +kernel) (show hlen 1078 = 695 by decide +kernel) rfl (by omega) (by decide) rfl dX7_isReady_46 ?_
      refine lv_irem hx hb dX7_isReady_47 c30 ?_
      refine lv_iconst (v := 2) hx hb dX7_isReady_48 (by decide) ?_
      refine lv_aload_n hx hb dX7_isReady_49 rfl (lv_at hl 1 rfl) ?_
      refine get7 B hP (show hk 1076 = 7 by decide +kernel) 3 (by decide) mw_1030 rfl dX7_isReady_50 ?_
      refine lv_iload hx hb dX7_isReady_53 (lv_at hl 0 rfl) ?_
      refine lv_bipush (v := 41) hx hb dX7_isReady_55 (by decide) ?_
      refine lv_iadd hx hb dX7_isReady_57 ?_
      refine lv_topi (fun z33 ez33 => ?_)
      obtain rfl : z33 = (nI (145 + 326 * na1 + 66 * na2)) := ez33.trans (by rw [show (nI (104 + 326 * na1 + 66 * na2)) = nI (104 + 326 * na1 + 66 * na2) from rfl, show 41 = nI 41 from rfl, nI_add] <;> exact congrArg nI (by omega))
      refine aldn (n := 695) (j := (145 + 326 * na1 + 66 * na2)) B hP (show hk 1078 = 8 by decide +kernel) (show hlen 1078 = 695 by decide +kernel) rfl (by omega) (by decide) dX7_isReady_58 ?_
      refine lv_imul hx hb dX7_isReady_59 ?_
      refine lv_icmp_ge (tgt := 67) hx hb dX7_isReady_60 (by decide) (fun c34 => ?_) (fun c34 => ?_)
      · skip
        refine lv_iconst (v := 0) hx hb dX7_isReady_67 (by decide) ?_
        exact ret_z B hr hlk hP hS dX7_isReady_68 (Or.inl rfl) (⟨rfl, hI, (iR_w (a := 0) (b := 0) (show iR 0 (0) (0) from ⟨by decide, by decide⟩) (by decide) (by decide))⟩)
      · skip
        refine lv_iconst (v := 1) hx hb dX7_isReady_63 (by decide) ?_
        refine lv_goto (tgt := 68) hx hb dX7_isReady_64 (by decide) ?_
        exact ret_z B hr hlk hP hS dX7_isReady_68 (Or.inr rfl) (⟨rfl, hI, (iR_w (a := 1) (b := 1) (show iR 1 (1) (1) from ⟨by decide, by decide⟩) (by decide) (by decide))⟩)

theorem lk_RX7_179 : LkV RX7 179 RX7 yX7_isReady cX7_isReady 5 (some .boolean) 3 := ⟨⟨mw_1277, mw_1279, mw_27, mw_59, mw_1280⟩, by decide +kernel⟩
set_option maxHeartbeats 4000000 in
set_option maxRecDepth 100000 in
theorem d_X7_isLinkHere (l : Launch) (E : hE) (ρ r : Nat → Nat → Int32) (Bt : Nat) (hBt : Bt ≤ 1000000) (M : Nat → Int32) (L : Nat → Nat) (X : Nat × Nat → Prop) (na1 : Nat) (lna1 : 0 ≤ na1) (una1 : na1 ≤ 1) (na2 : Nat) (lna2 : 0 ≤ na2) (una2 : na2 ≤ 3) (hI : RI r Bt M L X ρ) : Met l yX7_isLinkHere (.code yX7_isLinkHere cX7_isLinkHere 3 (some .boolean) :: gw_all) (rmk 6 240) (cPre E ρ [.ref (E.2.1 + 1076), .int (nI na1), .int (nI na2)]) (cI E (fun v ρ1 => ρ = ρ1 ∧ RI r Bt M L X ρ1 ∧ iR v (0) (1))) 0 0 (hA E) := by
  refine ent (own := RX7) (by decide) rfl (Nat.le_of_ble_eq_true rfl) ?_
  intro p e s m below meth c ls B hr hlk hl hP hS
  have hx := B.1.1
  have hb := B.1.2.1
  have hown := B.1.2.2.2.1
  have hts := B.1.2.2.2.2
  have hl : lv_has ls 3 [(0, .ref (E.2.1 + 1076)), (1, .int (nI na1)), (2, .int (nI na2))] := hl
  refine lv_aload_n hx hb dX7_isLinkHere_0 rfl (lv_at hl 0 rfl) ?_
  refine lv_iload_n hx hb dX7_isLinkHere_1 rfl (lv_at hl 1 rfl) ?_
  refine lv_iload_n hx hb dX7_isLinkHere_2 rfl (lv_at hl 2 rfl) ?_
  refine lv_aload_n hx hb dX7_isLinkHere_3 rfl (lv_at hl 0 rfl) ?_
  refine get7 B hP (show hk 1076 = 7 by decide +kernel) 3 (by decide) mw_1030 rfl dX7_isLinkHere_4 ?_
  refine lv_bipush (v := 7) hx hb dX7_isLinkHere_7 (by decide) ?_
  refine aldn (n := 695) (j := 7) B hP (show hk 1078 = 8 by decide +kernel) (show hlen 1078 = 695 by decide +kernel) rfl (by omega) (by decide) dX7_isLinkHere_9 ?_
  have i9 : iR (ρ 1078 7) (0) (1000000) := (iR_w (g_time hI) (by omega) (by omega))
  obtain ⟨j10, lj10, uj10, ej10⟩ := iR_nat (a := 0) (b := 1000000) i9
  refine lv_topi (fun z11 ez11 => ?_)
  obtain rfl : z11 = nI j10 := ez11.trans ej10
  refine call_i (cVt (k := 1076) (av := [.int (nI na1), .int (nI na2), .int (nI j10)]) (rest := []) B hP hS (d_X7_isReady l E ρ r Bt hBt M L X na1 (by omega) (by omega) na2 (by omega) (by omega) (nI j10) hI) lk_RX7_179 (hrecv (ci := 7) B hP (hk_lt (c := 7) (show hk 1076 = 7 by decide +kernel) (by decide)) (hcc7 _ _ (show hk 1076 = 7 by decide +kernel)) rfl) rfl rfl hl.1 (Nat.le_of_ble_eq_true rfl) ⟨Nat.le_of_ble_eq_true rfl, Nat.le_of_ble_eq_true rfl⟩ ⟨Nat.le_of_ble_eq_true rfl, Nat.le_of_ble_eq_true rfl⟩ dX7_isLinkHere_10) hS (fun r12 ρ13 H locs q14 hP hS => ?_)
  obtain ⟨rfl, hI, q14⟩ := q14
  obtain ⟨j15, lj15, uj15, ej15⟩ := iR_nat (a := 0) (b := 1) q14
  refine lv_topi (fun z16 ez16 => ?_)
  obtain rfl : z16 = nI j15 := ez16.trans ej15
  exact ret_z B hr hlk hP hS dX7_isLinkHere_13 (b01 (iR_w (a := 0) (b := 1) (nI_iR (j := j15) (a := 0) (b := 1) (by omega) (by omega) (by omega)) (by decide) (by decide))) (⟨rfl, hI, (iR_w (a := 0) (b := 1) (nI_iR (j := j15) (a := 0) (b := 1) (by omega) (by omega) (by omega)) (by decide) (by decide))⟩)
